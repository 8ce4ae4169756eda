/-! the model: tapes -/
section M24
variable {l : Launch} {G : GT} {u : Nat} {U U1 : MS} {d n m t : Nat} {g : Nat → Int32} {h : Hp} {Q : Option Value → Hp → Prop}
def sTapeM (U : MS) (t s n : Int32) : MS := msL (mset (mset U 15 (upd (U.1 15) t.toNatClampNeg s)) 16 (upd (U.1 16) t.toNatClampNeg (if s < 0 then 0 else n))) 17 (fun q => if 60 * t.toNatClampNeg ≤ q ∧ q < 60 * t.toNatClampNeg + 60 then 0 else U.2.2 17 q)
def sTape (U : MS) (t s n : Int32) : Int32 × MS := if bIn t 0 5 = true then if bIn s (-1) 4 = true ∧ (s < 0 ∨ n ≤ 60) then if 0 ≤ s ∧ n < 0 then (-14, U) else (1, sTapeM U t s n) else (-2, U) else (-1, U)

abbrev mX7_tape : MT := (RX7, cX7_tape, 5, (some .int), false)
theorem eX7_tape_0 : decode mX7_tape.2.1 0 = .ok (.iload_n 1, 1) := by decide +kernel
theorem eX7_tape_1 : decode mX7_tape.2.1 1 = .ok (.invokestatic 249, 3) := by decide +kernel
theorem eX7_tape_4 : decode mX7_tape.2.1 4 = .ok (.ifCond .ne 5, 3) := by decide +kernel
theorem eX7_tape_7 : decode mX7_tape.2.1 7 = .ok (.iconst (-1), 1) := by decide +kernel
theorem eX7_tape_8 : decode mX7_tape.2.1 8 = .ok (.ireturn, 1) := by decide +kernel
theorem eX7_tape_9 : decode mX7_tape.2.1 9 = .ok (.iload_n 2, 1) := by decide +kernel
theorem eX7_tape_10 : decode mX7_tape.2.1 10 = .ok (.iconst (-1), 1) := by decide +kernel
theorem eX7_tape_11 : decode mX7_tape.2.1 11 = .ok (.iconst 4, 1) := by decide +kernel
theorem eX7_tape_12 : decode mX7_tape.2.1 12 = .ok (.invokestatic 80, 3) := by decide +kernel
theorem eX7_tape_15 : decode mX7_tape.2.1 15 = .ok (.ifCond .eq 13, 3) := by decide +kernel
theorem eX7_tape_18 : decode mX7_tape.2.1 18 = .ok (.iload_n 2, 1) := by decide +kernel
theorem eX7_tape_19 : decode mX7_tape.2.1 19 = .ok (.ifCond .lt 12, 3) := by decide +kernel
theorem eX7_tape_22 : decode mX7_tape.2.1 22 = .ok (.iload_n 3, 1) := by decide +kernel
theorem eX7_tape_23 : decode mX7_tape.2.1 23 = .ok (.bipush 60, 2) := by decide +kernel
theorem eX7_tape_25 : decode mX7_tape.2.1 25 = .ok (.if_icmp .le 6, 3) := by decide +kernel
theorem eX7_tape_28 : decode mX7_tape.2.1 28 = .ok (.bipush (-2), 2) := by decide +kernel
theorem eX7_tape_30 : decode mX7_tape.2.1 30 = .ok (.ireturn, 1) := by decide +kernel
theorem eX7_tape_31 : decode mX7_tape.2.1 31 = .ok (.iload_n 2, 1) := by decide +kernel
theorem eX7_tape_32 : decode mX7_tape.2.1 32 = .ok (.ifCond .lt 10, 3) := by decide +kernel
theorem eX7_tape_35 : decode mX7_tape.2.1 35 = .ok (.iload_n 3, 1) := by decide +kernel
theorem eX7_tape_36 : decode mX7_tape.2.1 36 = .ok (.ifCond .ge 6, 3) := by decide +kernel
theorem eX7_tape_39 : decode mX7_tape.2.1 39 = .ok (.bipush (-14), 2) := by decide +kernel
theorem eX7_tape_41 : decode mX7_tape.2.1 41 = .ok (.ireturn, 1) := by decide +kernel
theorem eX7_tape_42 : decode mX7_tape.2.1 42 = .ok (.aload_n 0, 1) := by decide +kernel
theorem eX7_tape_43 : decode mX7_tape.2.1 43 = .ok (.getfield 59, 3) := by decide +kernel
theorem eX7_tape_46 : decode mX7_tape.2.1 46 = .ok (.iload_n 1, 1) := by decide +kernel
theorem eX7_tape_47 : decode mX7_tape.2.1 47 = .ok (.iload_n 2, 1) := by decide +kernel
theorem eX7_tape_48 : decode mX7_tape.2.1 48 = .ok (.iastore, 1) := by decide +kernel
theorem eX7_tape_49 : decode mX7_tape.2.1 49 = .ok (.aload_n 0, 1) := by decide +kernel
theorem eX7_tape_50 : decode mX7_tape.2.1 50 = .ok (.getfield 62, 3) := by decide +kernel
theorem eX7_tape_53 : decode mX7_tape.2.1 53 = .ok (.iload_n 1, 1) := by decide +kernel
theorem eX7_tape_54 : decode mX7_tape.2.1 54 = .ok (.iload_n 2, 1) := by decide +kernel
theorem eX7_tape_55 : decode mX7_tape.2.1 55 = .ok (.ifCond .ge 7, 3) := by decide +kernel
theorem eX7_tape_58 : decode mX7_tape.2.1 58 = .ok (.iconst 0, 1) := by decide +kernel
theorem eX7_tape_59 : decode mX7_tape.2.1 59 = .ok (.goto 4, 3) := by decide +kernel
theorem eX7_tape_62 : decode mX7_tape.2.1 62 = .ok (.iload_n 3, 1) := by decide +kernel
theorem eX7_tape_63 : decode mX7_tape.2.1 63 = .ok (.iastore, 1) := by decide +kernel
theorem eX7_tape_64 : decode mX7_tape.2.1 64 = .ok (.iconst 0, 1) := by decide +kernel
theorem eX7_tape_65 : decode mX7_tape.2.1 65 = .ok (.istore 4, 2) := by decide +kernel
theorem eX7_tape_67 : decode mX7_tape.2.1 67 = .ok (.iload 4, 2) := by decide +kernel
theorem eX7_tape_69 : decode mX7_tape.2.1 69 = .ok (.bipush 60, 2) := by decide +kernel
theorem eX7_tape_71 : decode mX7_tape.2.1 71 = .ok (.if_icmp .ge 22, 3) := by decide +kernel
theorem eX7_tape_74 : decode mX7_tape.2.1 74 = .ok (.aload_n 0, 1) := by decide +kernel
theorem eX7_tape_75 : decode mX7_tape.2.1 75 = .ok (.getfield 65, 3) := by decide +kernel
theorem eX7_tape_78 : decode mX7_tape.2.1 78 = .ok (.bipush 60, 2) := by decide +kernel
theorem eX7_tape_80 : decode mX7_tape.2.1 80 = .ok (.iload_n 1, 1) := by decide +kernel
theorem eX7_tape_81 : decode mX7_tape.2.1 81 = .ok (.imul, 1) := by decide +kernel
theorem eX7_tape_82 : decode mX7_tape.2.1 82 = .ok (.iload 4, 2) := by decide +kernel
theorem eX7_tape_84 : decode mX7_tape.2.1 84 = .ok (.iadd, 1) := by decide +kernel
theorem eX7_tape_85 : decode mX7_tape.2.1 85 = .ok (.lconst 0, 1) := by decide +kernel
theorem eX7_tape_86 : decode mX7_tape.2.1 86 = .ok (.lastore, 1) := by decide +kernel
theorem eX7_tape_87 : decode mX7_tape.2.1 87 = .ok (.iinc 4 1, 3) := by decide +kernel
theorem eX7_tape_90 : decode mX7_tape.2.1 90 = .ok (.goto (-23), 3) := by decide +kernel
theorem eX7_tape_93 : decode mX7_tape.2.1 93 = .ok (.iconst 1, 1) := by decide +kernel
theorem eX7_tape_94 : decode mX7_tape.2.1 94 = .ok (.ireturn, 1) := by decide +kernel
theorem lp_X7_tape {V : MS} {f : Nat → Int64} {t : Nat} (ht : t < 6) {o2 : Option Value} {x3 : Int32} {h0 : Hp} (hQ : ∀ h', MAt h' u (msL V 17 (fun q => if 60 * t ≤ q ∧ q < 60 * t + 60 then 0 else f q)) → Same u 19 h0 h' → Q (some (.int 1)) h') : ∀ (j k : Nat) (y : Int32) (h : Hp), j = 60 - k → k ≤ 60 → y = nI k → MAt h u (msL V 17 (fun q => if 60 * t ≤ q ∧ q < 60 * t + k then 0 else f q)) → Same u 19 h0 h → AW l G mX7_tape d 0 0 Q 0 0 h [some (.ref u), some (.int (nI t)), o2, some (.int x3), some (.int y)] [] 67 := by
  intro j
  induction j using Nat.strongRecOn with
  | _ j ih =>
    intro k y h hj hk hy hM hs
    subst hy
    refine aw_iload (pc' := 69) eX7_tape_67 rfl rfl ?_
    refine aw_bipush (pc' := 71) (v := 60) eX7_tape_69 rfl (by decide) ?_
    refine aw_icmp_ge (pc' := 74) (tgt := 93) eX7_tape_71 rfl (by decide) (fun c_71 => ?_) (fun c_71 => ?_)
    · have c9 := ge_nI (b := 60) (by omega) (by omega) c_71
      obtain rfl : k = 60 := by omega
      refine aw_iconst (pc' := 94) (v := 1) eX7_tape_93 rfl (by decide) ?_
      refine aw_ret (v := some (.int _)) eX7_tape_94 ⟨rfl, rfl⟩ (by omega) (by omega) rfl ?_
      exact hQ _ hM hs
    · have c9 := nge_nI (b := 60) (by omega) (by omega) c_71
      refine aw_aload_n (pc' := 75) eX7_tape_74 rfl rfl trivial ?_
      refine aw_Mref (pc' := 78) (kf := 26) 17 hM eX7_tape_75 rfl (by decide) rfl q815 ?_
      refine aw_bipush (pc' := 80) (v := 60) eX7_tape_78 rfl (by decide) ?_
      refine aw_iload_n (pc' := 81) eX7_tape_80 rfl rfl ?_
      refine aw_imul (pc' := 82) eX7_tape_81 rfl ?_
      refine aw_iload (pc' := 84) eX7_tape_82 rfl rfl ?_
      refine aw_iadd (pc' := 85) eX7_tape_84 rfl ?_
      refine aw_lconst (pc' := 86) (v := 0) eX7_tape_85 rfl (by decide) ?_
      refine aw_Mjst (pc' := 87) 17 hM eX7_tape_86 rfl (by decide) (show vp_in _ 360 from (ix60 (t := t) (i := k) (by omega)).2) (fun h3 hM1 hs2 => ?_)
      refine aw_iinc (pc' := 90) eX7_tape_87 rfl rfl rfl (by decide) ?_
      dsimp only [zst, zst2, zcut]
      refine aw_goto eX7_tape_90 (by decide) (tgt := 67) ?_
      refine ih (60 - (k + 1)) (by omega) (k + 1) _ _ rfl (by omega) (nI_inc k) ?_ (hs.tr hs2)
      have hM9 := hM1
      rw [(ix60 (t := t) (i := k) (by omega)).1, mupL_msL, msL_set, msL_eq] at hM9
      refine hM9.gsL fun q hq => ?_
      rw [updL_if]
      by_cases e : q = 60 * t + k
      · rw [if_pos e, if_pos (by omega)]
      · rw [if_neg e]
        by_cases e2 : 60 * t ≤ q ∧ q < 60 * t + k
        · rw [if_pos e2, if_pos (by omega)]
        · rw [if_neg e2, if_neg (by omega)]
theorem c_X7_tape (hM : MAt h u U) (t s n : Int32) (hd : 2 ≤ d) : Ct l G mX7_tape yX7_tape d 0 0 [.ref u, .int t, .int s, .int n] h (fun r h' => r = some (.int (sTape U t s n).1) ∧ MAt h' u (sTape U t s n).2 ∧ Same u 19 h h') := by
  refine ct_of (lv := [some (.ref u), some (.int t), some (.int s), some (.int n), none]) (by decide +kernel) rfl (fun z => by cases z) (fun _ => rfl) (fun _ => Nat.le_of_ble_eq_true rfl) ?_
  refine aw_iload_n (pc' := 1) eX7_tape_0 rfl rfl ?_
  refine aw_calls (pc' := 4) (nn := 1) (c_X7_isTape (d := d - 1) _ (by omega)) eX7_tape_1 rfl ⟨q1146, q1148, q62⟩ q1147 ⟨by decide +kernel, by decide +kernel, by decide +kernel⟩ rfl ⟨by omega, by decide⟩ ⟨by omega, by omega⟩ rfl (Nat.le_of_ble_eq_true rfl) (fun v1 h2 hq3 => ?_)
  obtain ⟨rfl, rfl⟩ := hq3
  dsimp only [Option.toList, List.cons_append, List.nil_append]
  refine aw_if_ne (pc' := 7) (tgt := 9) eX7_tape_4 rfl (by decide) (fun c_4 => ?_) (fun c_4 => ?_)
  · simp only [zb_eq0, Bool.not_eq_false, Bool.not_eq_true, decide_eq_true_eq, decide_eq_false_iff_not, Decidable.not_not] at c_4
    have c4 := c_4
    obtain ⟨t, ht, rfl⟩ := (bIn_lit (N := 5) (by omega)).mp c4
    have clt : (nI t).toNatClampNeg = t := nI_clamp (by omega)
    have vt : vp_in (nI t) 6 := vp_in_nI (by omega) (by omega)
    refine aw_iload_n (pc' := 10) eX7_tape_9 rfl rfl ?_
    refine aw_iconst (pc' := 11) (v := -1) eX7_tape_10 rfl (by decide) ?_
    refine aw_iconst (pc' := 12) (v := 4) eX7_tape_11 rfl (by decide) ?_
    refine aw_calls (pc' := 15) (nn := 3) (c_X7_isIn (d := d - 1) _ _ _ (by omega)) eX7_tape_12 rfl ⟨q890, q892, q62⟩ q891 ⟨by decide +kernel, by decide +kernel, by decide +kernel⟩ rfl ⟨by omega, by decide⟩ ⟨by omega, by omega⟩ rfl (Nat.le_of_ble_eq_true rfl) (fun v4 h5 hq6 => ?_)
    obtain ⟨rfl, rfl⟩ := hq6
    dsimp only [Option.toList, List.cons_append, List.nil_append]
    refine aw_if_eq (pc' := 18) (tgt := 28) eX7_tape_15 rfl (by decide) (fun c_15 => ?_) (fun c_15 => ?_)
    · refine aw_bipush (pc' := 30) (v := -2) eX7_tape_28 rfl (by decide) ?_
      refine aw_ret (v := some (.int _)) eX7_tape_30 ⟨rfl, rfl⟩ (by omega) (by omega) rfl ?_
      simp only [zb_eq0, Bool.not_eq_false, Bool.not_eq_true, decide_eq_true_eq, decide_eq_false_iff_not, Decidable.not_not] at c_15
      exact ⟨by rw [sTape, if_pos c4, if_neg (by rw [c_15]; simp)], by rw [sTape, if_pos c4, if_neg (by rw [c_15]; simp)]; exact hM, Same.rf⟩
    · simp only [zb_eq0, Bool.not_eq_false, Bool.not_eq_true, decide_eq_true_eq, decide_eq_false_iff_not, Decidable.not_not] at c_15
      have c15 := c_15
      refine aw_iload_n (pc' := 19) eX7_tape_18 rfl rfl ?_
      refine aw_if_lt (pc' := 22) (tgt := 31) eX7_tape_19 rfl (by decide) (fun c_19 => ?_) (fun c_19 => ?_)
      · refine aw_iload_n (pc' := 32) eX7_tape_31 rfl rfl ?_
        refine aw_if_lt (pc' := 35) (tgt := 42) eX7_tape_32 rfl (by decide) (fun c_32 => ?_) (fun c_32 => ?_)
        · refine aw_aload_n (pc' := 43) eX7_tape_42 rfl rfl trivial ?_
          refine aw_Mref (pc' := 46) (kf := 24) 15 hM eX7_tape_43 rfl (by decide) rfl q813 ?_
          refine aw_iload_n (pc' := 47) eX7_tape_46 rfl rfl ?_
          refine aw_iload_n (pc' := 48) eX7_tape_47 rfl rfl ?_
          refine aw_MastC (pc' := 49) 15 t hM eX7_tape_48 rfl (by decide) vt clt (fun h9 hM7 hs8 => ?_)
          refine aw_aload_n (pc' := 50) eX7_tape_49 rfl rfl trivial ?_
          refine aw_Mref (pc' := 53) (kf := 25) 16 hM7 eX7_tape_50 rfl (by decide) rfl q814 ?_
          refine aw_iload_n (pc' := 54) eX7_tape_53 rfl rfl ?_
          refine aw_iload_n (pc' := 55) eX7_tape_54 rfl rfl ?_
          refine aw_if_ge (pc' := 58) (tgt := 62) eX7_tape_55 rfl (by decide) (fun c_55 => ?_) (fun c_55 => ?_)
          · refine aw_iload_n (pc' := 63) eX7_tape_62 rfl rfl ?_
            refine aw_MastC (pc' := 64) 16 t hM7 eX7_tape_63 rfl (by decide) vt clt (fun h12 hM10 hs11 => ?_)
            have hT13 := hs8.tr hs11
            refine aw_iconst (pc' := 65) (v := 0) eX7_tape_64 rfl (by decide) ?_
            refine aw_istore (pc' := 67) eX7_tape_65 rfl (by decide) ?_
            dsimp only [zst, zst2, zcut]
            first | exact absurd c_19 (by first | exact c_32 | exact Int32.not_lt.mpr c_32) | exact absurd c_19 (by first | exact c_55 | exact Int32.not_lt.mpr c_55)
          · refine aw_iconst (pc' := 59) (v := 0) eX7_tape_58 rfl (by decide) ?_
            refine aw_goto eX7_tape_59 (by decide) (tgt := 63) ?_
            refine aw_MastC (pc' := 64) 16 t hM7 eX7_tape_63 rfl (by decide) vt clt (fun h16 hM14 hs15 => ?_)
            have hT17 := hs8.tr hs15
            refine aw_iconst (pc' := 65) (v := 0) eX7_tape_64 rfl (by decide) ?_
            refine aw_istore (pc' := 67) eX7_tape_65 rfl (by decide) ?_
            dsimp only [zst, zst2, zcut]
            have hM8 := hM14
            refine lp_X7_tape (V := mset (mset U 15 (upd (U.1 15) t s)) 16 (upd (U.1 16) t (if s < 0 then 0 else n))) (f := U.2.2 17) (t := t) (by omega) (fun h9 m9 s9 => ?_) 60 0 _ _ (by omega) (by omega) rfl (MAt.idL (j := 17) (by rw [if_pos (show s < 0 by first | exact c_19 | exact Int32.not_le.mp c_19)]; exact hM8) fun q hq => (if_neg (show ¬ (60 * t ≤ q ∧ q < 60 * t + 0) by omega)).symm) hT17
            refine ⟨by rw [sTape, if_pos c4, if_pos ⟨c15, Or.inl (by first | exact c_19 | exact Int32.not_le.mp c_19)⟩, if_neg (fun z => absurd (show s < 0 by first | exact c_19 | exact Int32.not_le.mp c_19) (Int32.not_lt.mpr z.1))], ?_, s9⟩
            rw [sTape, if_pos c4, if_pos ⟨c15, Or.inl (by first | exact c_19 | exact Int32.not_le.mp c_19)⟩, if_neg (fun z => absurd (show s < 0 by first | exact c_19 | exact Int32.not_le.mp c_19) (Int32.not_lt.mpr z.1)), sTapeM, clt]
            exact m9
        · refine aw_iload_n (pc' := 36) eX7_tape_35 rfl rfl ?_
          refine aw_if_ge (pc' := 39) (tgt := 42) eX7_tape_36 rfl (by decide) (fun c_36 => ?_) (fun c_36 => ?_)
          · refine aw_aload_n (pc' := 43) eX7_tape_42 rfl rfl trivial ?_
            refine aw_Mref (pc' := 46) (kf := 24) 15 hM eX7_tape_43 rfl (by decide) rfl q813 ?_
            refine aw_iload_n (pc' := 47) eX7_tape_46 rfl rfl ?_
            refine aw_iload_n (pc' := 48) eX7_tape_47 rfl rfl ?_
            refine aw_MastC (pc' := 49) 15 t hM eX7_tape_48 rfl (by decide) vt clt (fun h20 hM18 hs19 => ?_)
            refine aw_aload_n (pc' := 50) eX7_tape_49 rfl rfl trivial ?_
            refine aw_Mref (pc' := 53) (kf := 25) 16 hM18 eX7_tape_50 rfl (by decide) rfl q814 ?_
            refine aw_iload_n (pc' := 54) eX7_tape_53 rfl rfl ?_
            refine aw_iload_n (pc' := 55) eX7_tape_54 rfl rfl ?_
            refine aw_if_ge (pc' := 58) (tgt := 62) eX7_tape_55 rfl (by decide) (fun c_55 => ?_) (fun c_55 => ?_)
            · refine aw_iload_n (pc' := 63) eX7_tape_62 rfl rfl ?_
              refine aw_MastC (pc' := 64) 16 t hM18 eX7_tape_63 rfl (by decide) vt clt (fun h23 hM21 hs22 => ?_)
              have hT24 := hs19.tr hs22
              refine aw_iconst (pc' := 65) (v := 0) eX7_tape_64 rfl (by decide) ?_
              refine aw_istore (pc' := 67) eX7_tape_65 rfl (by decide) ?_
              dsimp only [zst, zst2, zcut]
              first | exact absurd c_19 (by first | exact c_32 | exact Int32.not_lt.mpr c_32) | exact absurd c_19 (by first | exact c_55 | exact Int32.not_lt.mpr c_55)
            · refine aw_iconst (pc' := 59) (v := 0) eX7_tape_58 rfl (by decide) ?_
              refine aw_goto eX7_tape_59 (by decide) (tgt := 63) ?_
              refine aw_MastC (pc' := 64) 16 t hM18 eX7_tape_63 rfl (by decide) vt clt (fun h27 hM25 hs26 => ?_)
              have hT28 := hs19.tr hs26
              refine aw_iconst (pc' := 65) (v := 0) eX7_tape_64 rfl (by decide) ?_
              refine aw_istore (pc' := 67) eX7_tape_65 rfl (by decide) ?_
              dsimp only [zst, zst2, zcut]
              first | exact absurd c_19 (by first | exact c_32 | exact Int32.not_lt.mpr c_32) | exact absurd c_19 (by first | exact c_55 | exact Int32.not_lt.mpr c_55)
          · refine aw_bipush (pc' := 41) (v := -14) eX7_tape_39 rfl (by decide) ?_
            refine aw_ret (v := some (.int _)) eX7_tape_41 ⟨rfl, rfl⟩ (by omega) (by omega) rfl ?_
            exact absurd c_19 (by first | exact c_32 | exact Int32.not_lt.mpr c_32)
      · refine aw_iload_n (pc' := 23) eX7_tape_22 rfl rfl ?_
        refine aw_bipush (pc' := 25) (v := 60) eX7_tape_23 rfl (by decide) ?_
        refine aw_icmp_le (pc' := 28) (tgt := 31) eX7_tape_25 rfl (by decide) (fun c_25 => ?_) (fun c_25 => ?_)
        · refine aw_iload_n (pc' := 32) eX7_tape_31 rfl rfl ?_
          refine aw_if_lt (pc' := 35) (tgt := 42) eX7_tape_32 rfl (by decide) (fun c_32 => ?_) (fun c_32 => ?_)
          · refine aw_aload_n (pc' := 43) eX7_tape_42 rfl rfl trivial ?_
            refine aw_Mref (pc' := 46) (kf := 24) 15 hM eX7_tape_43 rfl (by decide) rfl q813 ?_
            refine aw_iload_n (pc' := 47) eX7_tape_46 rfl rfl ?_
            refine aw_iload_n (pc' := 48) eX7_tape_47 rfl rfl ?_
            refine aw_MastC (pc' := 49) 15 t hM eX7_tape_48 rfl (by decide) vt clt (fun h31 hM29 hs30 => ?_)
            refine aw_aload_n (pc' := 50) eX7_tape_49 rfl rfl trivial ?_
            refine aw_Mref (pc' := 53) (kf := 25) 16 hM29 eX7_tape_50 rfl (by decide) rfl q814 ?_
            refine aw_iload_n (pc' := 54) eX7_tape_53 rfl rfl ?_
            refine aw_iload_n (pc' := 55) eX7_tape_54 rfl rfl ?_
            refine aw_if_ge (pc' := 58) (tgt := 62) eX7_tape_55 rfl (by decide) (fun c_55 => ?_) (fun c_55 => ?_)
            · refine aw_iload_n (pc' := 63) eX7_tape_62 rfl rfl ?_
              refine aw_MastC (pc' := 64) 16 t hM29 eX7_tape_63 rfl (by decide) vt clt (fun h34 hM32 hs33 => ?_)
              have hT35 := hs30.tr hs33
              refine aw_iconst (pc' := 65) (v := 0) eX7_tape_64 rfl (by decide) ?_
              refine aw_istore (pc' := 67) eX7_tape_65 rfl (by decide) ?_
              dsimp only [zst, zst2, zcut]
              first | exact absurd c_32 (by first | exact c_19 | exact Int32.not_lt.mpr c_19) | exact absurd (show s < 0 by first | exact c_55 | exact Int32.not_le.mp c_55) (by first | exact c_19 | exact Int32.not_lt.mpr c_19)
            · refine aw_iconst (pc' := 59) (v := 0) eX7_tape_58 rfl (by decide) ?_
              refine aw_goto eX7_tape_59 (by decide) (tgt := 63) ?_
              refine aw_MastC (pc' := 64) 16 t hM29 eX7_tape_63 rfl (by decide) vt clt (fun h38 hM36 hs37 => ?_)
              have hT39 := hs30.tr hs37
              refine aw_iconst (pc' := 65) (v := 0) eX7_tape_64 rfl (by decide) ?_
              refine aw_istore (pc' := 67) eX7_tape_65 rfl (by decide) ?_
              dsimp only [zst, zst2, zcut]
              first | exact absurd c_32 (by first | exact c_19 | exact Int32.not_lt.mpr c_19) | exact absurd (show s < 0 by first | exact c_55 | exact Int32.not_le.mp c_55) (by first | exact c_19 | exact Int32.not_lt.mpr c_19)
          · refine aw_iload_n (pc' := 36) eX7_tape_35 rfl rfl ?_
            refine aw_if_ge (pc' := 39) (tgt := 42) eX7_tape_36 rfl (by decide) (fun c_36 => ?_) (fun c_36 => ?_)
            · refine aw_aload_n (pc' := 43) eX7_tape_42 rfl rfl trivial ?_
              refine aw_Mref (pc' := 46) (kf := 24) 15 hM eX7_tape_43 rfl (by decide) rfl q813 ?_
              refine aw_iload_n (pc' := 47) eX7_tape_46 rfl rfl ?_
              refine aw_iload_n (pc' := 48) eX7_tape_47 rfl rfl ?_
              refine aw_MastC (pc' := 49) 15 t hM eX7_tape_48 rfl (by decide) vt clt (fun h42 hM40 hs41 => ?_)
              refine aw_aload_n (pc' := 50) eX7_tape_49 rfl rfl trivial ?_
              refine aw_Mref (pc' := 53) (kf := 25) 16 hM40 eX7_tape_50 rfl (by decide) rfl q814 ?_
              refine aw_iload_n (pc' := 54) eX7_tape_53 rfl rfl ?_
              refine aw_iload_n (pc' := 55) eX7_tape_54 rfl rfl ?_
              refine aw_if_ge (pc' := 58) (tgt := 62) eX7_tape_55 rfl (by decide) (fun c_55 => ?_) (fun c_55 => ?_)
              · refine aw_iload_n (pc' := 63) eX7_tape_62 rfl rfl ?_
                refine aw_MastC (pc' := 64) 16 t hM40 eX7_tape_63 rfl (by decide) vt clt (fun h45 hM43 hs44 => ?_)
                have hT46 := hs41.tr hs44
                refine aw_iconst (pc' := 65) (v := 0) eX7_tape_64 rfl (by decide) ?_
                refine aw_istore (pc' := 67) eX7_tape_65 rfl (by decide) ?_
                dsimp only [zst, zst2, zcut]
                have hM8 := hM43
                refine lp_X7_tape (V := mset (mset U 15 (upd (U.1 15) t s)) 16 (upd (U.1 16) t (if s < 0 then 0 else n))) (f := U.2.2 17) (t := t) (by omega) (fun h9 m9 s9 => ?_) 60 0 _ _ (by omega) (by omega) rfl (MAt.idL (j := 17) (by rw [if_neg (show ¬ s < 0 by first | exact c_19 | exact Int32.not_lt.mpr c_19)]; exact hM8) fun q hq => (if_neg (show ¬ (60 * t ≤ q ∧ q < 60 * t + 0) by omega)).symm) hT46
                refine ⟨by rw [sTape, if_pos c4, if_pos ⟨c15, Or.inr (by first | exact c_25 | exact Int32.not_lt.mp c_25)⟩, if_neg (fun z => absurd z.2 (by first | exact c_36 | exact Int32.not_lt.mpr c_36))], ?_, s9⟩
                rw [sTape, if_pos c4, if_pos ⟨c15, Or.inr (by first | exact c_25 | exact Int32.not_lt.mp c_25)⟩, if_neg (fun z => absurd z.2 (by first | exact c_36 | exact Int32.not_lt.mpr c_36)), sTapeM, clt]
                exact m9
              · refine aw_iconst (pc' := 59) (v := 0) eX7_tape_58 rfl (by decide) ?_
                refine aw_goto eX7_tape_59 (by decide) (tgt := 63) ?_
                refine aw_MastC (pc' := 64) 16 t hM40 eX7_tape_63 rfl (by decide) vt clt (fun h49 hM47 hs48 => ?_)
                have hT50 := hs41.tr hs48
                refine aw_iconst (pc' := 65) (v := 0) eX7_tape_64 rfl (by decide) ?_
                refine aw_istore (pc' := 67) eX7_tape_65 rfl (by decide) ?_
                dsimp only [zst, zst2, zcut]
                first | exact absurd c_32 (by first | exact c_19 | exact Int32.not_lt.mpr c_19) | exact absurd (show s < 0 by first | exact c_55 | exact Int32.not_le.mp c_55) (by first | exact c_19 | exact Int32.not_lt.mpr c_19)
            · refine aw_bipush (pc' := 41) (v := -14) eX7_tape_39 rfl (by decide) ?_
              refine aw_ret (v := some (.int _)) eX7_tape_41 ⟨rfl, rfl⟩ (by omega) (by omega) rfl ?_
              exact ⟨by rw [sTape, if_pos c4, if_pos ⟨c15, Or.inr (by first | exact c_25 | exact Int32.not_lt.mp c_25)⟩, if_pos ⟨by first | exact c_32 | exact Int32.not_lt.mp c_32, by first | exact c_36 | exact Int32.not_le.mp c_36⟩], by rw [sTape, if_pos c4, if_pos ⟨c15, Or.inr (by first | exact c_25 | exact Int32.not_lt.mp c_25)⟩, if_pos ⟨by first | exact c_32 | exact Int32.not_lt.mp c_32, by first | exact c_36 | exact Int32.not_le.mp c_36⟩]; exact hM, Same.rf⟩
        · refine aw_bipush (pc' := 30) (v := -2) eX7_tape_28 rfl (by decide) ?_
          refine aw_ret (v := some (.int _)) eX7_tape_30 ⟨rfl, rfl⟩ (by omega) (by omega) rfl ?_
          exact ⟨by rw [sTape, if_pos c4, if_neg (fun z => z.2.elim (fun y => absurd y (by first | exact c_19 | exact Int32.not_lt.mpr c_19)) (fun y => absurd y (by first | exact c_25 | exact Int32.not_le.mpr c_25)))], by rw [sTape, if_pos c4, if_neg (fun z => z.2.elim (fun y => absurd y (by first | exact c_19 | exact Int32.not_lt.mpr c_19)) (fun y => absurd y (by first | exact c_25 | exact Int32.not_le.mpr c_25)))]; exact hM, Same.rf⟩
  · refine aw_iconst (pc' := 8) (v := -1) eX7_tape_7 rfl (by decide) ?_
    refine aw_ret (v := some (.int _)) eX7_tape_8 ⟨rfl, rfl⟩ (by omega) (by omega) rfl ?_
    try simp only [zb_eq0, Bool.not_eq_false, Bool.not_eq_true, decide_eq_true_eq, decide_eq_false_iff_not, Decidable.not_not] at c_4
    exact ⟨by rw [sTape, if_neg (by rw [c_4]; decide)], by rw [sTape, if_neg (by rw [c_4]; decide)]; exact hM, Same.rf⟩
def sJud (U : MS) (t : Nat) (i : Int32) : Nat → Nat → Int32
  | 0, _ => -5
  | k + 1, p => if i < 0 ∨ (U.1 16 t).toNatClampNeg ≤ i.toNatClampNeg + p then nI (100 + p) else if U.2.2 17 (60 * t + (i.toNatClampNeg + p)) = (U.1 1 (10 * p + 4)).toInt64 then sJud U t i k (p + 1) else nI p
def sJudge (U : MS) (m : Nat) (t i : Int32) : Int32 := if bIn t 0 5 = true then if U.1 15 t.toNatClampNeg = -1 ∨ U.1 15 t.toNatClampNeg = 2 then sJud U t.toNatClampNeg i m 0 else -12 else -1
abbrev mX7_judge : MT := (RX7, cX7_judge, 6, (some .int), false)
theorem eX7_judge_0 : decode mX7_judge.2.1 0 = .ok (.iload_n 1, 1) := by decide +kernel
theorem eX7_judge_1 : decode mX7_judge.2.1 1 = .ok (.invokestatic 249, 3) := by decide +kernel
theorem eX7_judge_4 : decode mX7_judge.2.1 4 = .ok (.ifCond .ne 5, 3) := by decide +kernel
theorem eX7_judge_7 : decode mX7_judge.2.1 7 = .ok (.iconst (-1), 1) := by decide +kernel
theorem eX7_judge_8 : decode mX7_judge.2.1 8 = .ok (.ireturn, 1) := by decide +kernel
theorem eX7_judge_9 : decode mX7_judge.2.1 9 = .ok (.aload_n 0, 1) := by decide +kernel
theorem eX7_judge_10 : decode mX7_judge.2.1 10 = .ok (.getfield 59, 3) := by decide +kernel
theorem eX7_judge_13 : decode mX7_judge.2.1 13 = .ok (.iload_n 1, 1) := by decide +kernel
theorem eX7_judge_14 : decode mX7_judge.2.1 14 = .ok (.iaload, 1) := by decide +kernel
theorem eX7_judge_15 : decode mX7_judge.2.1 15 = .ok (.iconst (-1), 1) := by decide +kernel
theorem eX7_judge_16 : decode mX7_judge.2.1 16 = .ok (.if_icmp .eq 16, 3) := by decide +kernel
theorem eX7_judge_19 : decode mX7_judge.2.1 19 = .ok (.aload_n 0, 1) := by decide +kernel
theorem eX7_judge_20 : decode mX7_judge.2.1 20 = .ok (.getfield 59, 3) := by decide +kernel
theorem eX7_judge_23 : decode mX7_judge.2.1 23 = .ok (.iload_n 1, 1) := by decide +kernel
theorem eX7_judge_24 : decode mX7_judge.2.1 24 = .ok (.iaload, 1) := by decide +kernel
theorem eX7_judge_25 : decode mX7_judge.2.1 25 = .ok (.iconst 2, 1) := by decide +kernel
theorem eX7_judge_26 : decode mX7_judge.2.1 26 = .ok (.if_icmp .eq 6, 3) := by decide +kernel
theorem eX7_judge_29 : decode mX7_judge.2.1 29 = .ok (.bipush (-12), 2) := by decide +kernel
theorem eX7_judge_31 : decode mX7_judge.2.1 31 = .ok (.ireturn, 1) := by decide +kernel
theorem eX7_judge_32 : decode mX7_judge.2.1 32 = .ok (.iconst 0, 1) := by decide +kernel
theorem eX7_judge_33 : decode mX7_judge.2.1 33 = .ok (.istore_n 3, 1) := by decide +kernel
theorem eX7_judge_34 : decode mX7_judge.2.1 34 = .ok (.iload_n 3, 1) := by decide +kernel
theorem eX7_judge_35 : decode mX7_judge.2.1 35 = .ok (.aload_n 0, 1) := by decide +kernel
theorem eX7_judge_36 : decode mX7_judge.2.1 36 = .ok (.getfield 15, 3) := by decide +kernel
theorem eX7_judge_39 : decode mX7_judge.2.1 39 = .ok (.bipush 60, 2) := by decide +kernel
theorem eX7_judge_41 : decode mX7_judge.2.1 41 = .ok (.iaload, 1) := by decide +kernel
theorem eX7_judge_42 : decode mX7_judge.2.1 42 = .ok (.if_icmp .ge 64, 3) := by decide +kernel
theorem eX7_judge_45 : decode mX7_judge.2.1 45 = .ok (.iload_n 2, 1) := by decide +kernel
theorem eX7_judge_46 : decode mX7_judge.2.1 46 = .ok (.i2l, 1) := by decide +kernel
theorem eX7_judge_47 : decode mX7_judge.2.1 47 = .ok (.iload_n 3, 1) := by decide +kernel
theorem eX7_judge_48 : decode mX7_judge.2.1 48 = .ok (.i2l, 1) := by decide +kernel
theorem eX7_judge_49 : decode mX7_judge.2.1 49 = .ok (.ladd, 1) := by decide +kernel
theorem eX7_judge_50 : decode mX7_judge.2.1 50 = .ok (.lstore 4, 2) := by decide +kernel
theorem eX7_judge_52 : decode mX7_judge.2.1 52 = .ok (.iload_n 2, 1) := by decide +kernel
theorem eX7_judge_53 : decode mX7_judge.2.1 53 = .ok (.ifCond .lt 16, 3) := by decide +kernel
theorem eX7_judge_56 : decode mX7_judge.2.1 56 = .ok (.lload 4, 2) := by decide +kernel
theorem eX7_judge_58 : decode mX7_judge.2.1 58 = .ok (.aload_n 0, 1) := by decide +kernel
theorem eX7_judge_59 : decode mX7_judge.2.1 59 = .ok (.getfield 62, 3) := by decide +kernel
theorem eX7_judge_62 : decode mX7_judge.2.1 62 = .ok (.iload_n 1, 1) := by decide +kernel
theorem eX7_judge_63 : decode mX7_judge.2.1 63 = .ok (.iaload, 1) := by decide +kernel
theorem eX7_judge_64 : decode mX7_judge.2.1 64 = .ok (.i2l, 1) := by decide +kernel
theorem eX7_judge_65 : decode mX7_judge.2.1 65 = .ok (.lcmp, 1) := by decide +kernel
theorem eX7_judge_66 : decode mX7_judge.2.1 66 = .ok (.ifCond .lt 8, 3) := by decide +kernel
theorem eX7_judge_69 : decode mX7_judge.2.1 69 = .ok (.bipush 100, 2) := by decide +kernel
theorem eX7_judge_71 : decode mX7_judge.2.1 71 = .ok (.iload_n 3, 1) := by decide +kernel
theorem eX7_judge_72 : decode mX7_judge.2.1 72 = .ok (.iadd, 1) := by decide +kernel
theorem eX7_judge_73 : decode mX7_judge.2.1 73 = .ok (.ireturn, 1) := by decide +kernel
theorem eX7_judge_74 : decode mX7_judge.2.1 74 = .ok (.aload_n 0, 1) := by decide +kernel
theorem eX7_judge_75 : decode mX7_judge.2.1 75 = .ok (.getfield 65, 3) := by decide +kernel
theorem eX7_judge_78 : decode mX7_judge.2.1 78 = .ok (.bipush 60, 2) := by decide +kernel
theorem eX7_judge_80 : decode mX7_judge.2.1 80 = .ok (.iload_n 1, 1) := by decide +kernel
theorem eX7_judge_81 : decode mX7_judge.2.1 81 = .ok (.imul, 1) := by decide +kernel
theorem eX7_judge_82 : decode mX7_judge.2.1 82 = .ok (.lload 4, 2) := by decide +kernel
theorem eX7_judge_84 : decode mX7_judge.2.1 84 = .ok (.l2i, 1) := by decide +kernel
theorem eX7_judge_85 : decode mX7_judge.2.1 85 = .ok (.iadd, 1) := by decide +kernel
theorem eX7_judge_86 : decode mX7_judge.2.1 86 = .ok (.laload, 1) := by decide +kernel
theorem eX7_judge_87 : decode mX7_judge.2.1 87 = .ok (.aload_n 0, 1) := by decide +kernel
theorem eX7_judge_88 : decode mX7_judge.2.1 88 = .ok (.iload_n 3, 1) := by decide +kernel
theorem eX7_judge_89 : decode mX7_judge.2.1 89 = .ok (.iconst 4, 1) := by decide +kernel
theorem eX7_judge_90 : decode mX7_judge.2.1 90 = .ok (.invokevirtual 84, 3) := by decide +kernel
theorem eX7_judge_93 : decode mX7_judge.2.1 93 = .ok (.i2l, 1) := by decide +kernel
theorem eX7_judge_94 : decode mX7_judge.2.1 94 = .ok (.lcmp, 1) := by decide +kernel
theorem eX7_judge_95 : decode mX7_judge.2.1 95 = .ok (.ifCond .eq 5, 3) := by decide +kernel
theorem eX7_judge_98 : decode mX7_judge.2.1 98 = .ok (.iload_n 3, 1) := by decide +kernel
theorem eX7_judge_99 : decode mX7_judge.2.1 99 = .ok (.ireturn, 1) := by decide +kernel
theorem eX7_judge_100 : decode mX7_judge.2.1 100 = .ok (.iinc 3 1, 3) := by decide +kernel
theorem eX7_judge_103 : decode mX7_judge.2.1 103 = .ok (.goto (-69), 3) := by decide +kernel
theorem eX7_judge_106 : decode mX7_judge.2.1 106 = .ok (.bipush (-5), 2) := by decide +kernel
theorem eX7_judge_108 : decode mX7_judge.2.1 108 = .ok (.ireturn, 1) := by decide +kernel
theorem lp_X7_judge (hM : MAt h u U) {m : Nat} (hm : mOk U m) (hT : mT U) {t : Nat} (ht : t < 6) {i : Int32} (hd : 1 ≤ d) : ∀ (j p : Nat) (y : Int32) (o4 o5 : Option Value), j = m - p → p ≤ m → y = nI p → Q (some (.int (sJud U t i (m - p) p))) h → AW l G mX7_judge d 0 0 Q 0 0 h [some (.ref u), some (.int (nI t)), some (.int i), some (.int y), o4, o5] [] 34 := by
  have hm6 := hm.2
  have clt : (nI t).toNatClampNeg = t := nI_clamp (by omega)
  have vt : vp_in (nI t) 6 := vp_in_nI (by omega) (by omega)
  intro j
  induction j using Nat.strongRecOn with
  | _ j ih =>
    intro p y o4 o5 hj hp hy hQ
    subst hy
    refine aw_iload_n (pc' := 35) eX7_judge_34 rfl rfl ?_
    refine aw_aload_n (pc' := 36) eX7_judge_35 rfl rfl trivial ?_
    refine aw_Mref (pc' := 39) (kf := 0) 1 hM eX7_judge_36 rfl (by decide) rfl q789 ?_
    refine aw_bipush (pc' := 41) (v := 60) eX7_judge_39 rfl (by decide) ?_
    refine aw_MaldC (pc' := 42) 1 60 hM eX7_judge_41 rfl (by decide) (by unfold vp_in; decide) (by decide) ?_
    refine aw_icmp_ge (pc' := 45) (tgt := 106) eX7_judge_42 rfl (by decide) (fun c_42 => ?_) (fun c_42 => ?_)
    · refine aw_bipush (pc' := 108) (v := -5) eX7_judge_106 rfl (by decide) ?_
      refine aw_ret (v := some (.int _)) eX7_judge_108 ⟨rfl, rfl⟩ (by omega) (by omega) rfl ?_
      rw [hm.1] at c_42
      have c9 := ge_nI (by omega) (by omega) c_42
      obtain rfl : p = m := by omega
      rw [Nat.sub_self, sJud] at hQ
      exact hQ
    · rw [hm.1] at c_42
      have c9 := nge_nI (by omega) (by omega) c_42
      have ek : m - p = (m - (p + 1)) + 1 := by omega
      refine aw_iload_n (pc' := 46) eX7_judge_45 rfl rfl ?_
      refine aw_i2l (pc' := 47) eX7_judge_46 rfl ?_
      refine aw_iload_n (pc' := 48) eX7_judge_47 rfl rfl ?_
      refine aw_i2l (pc' := 49) eX7_judge_48 rfl ?_
      refine aw_ladd (pc' := 50) eX7_judge_49 rfl ?_
      refine aw_lstore (pc' := 52) eX7_judge_50 rfl (by decide) ?_
      dsimp only [zst, zst2, zcut]
      refine aw_iload_n (pc' := 53) eX7_judge_52 rfl rfl ?_
      refine aw_if_lt (pc' := 56) (tgt := 69) eX7_judge_53 rfl (by decide) (fun c_53 => ?_) (fun c_53 => ?_)
      · refine aw_bipush (pc' := 71) (v := 100) eX7_judge_69 rfl (by decide) ?_
        refine aw_iload_n (pc' := 72) eX7_judge_71 rfl rfl ?_
        refine aw_iadd (pc' := 73) eX7_judge_72 rfl ?_
        refine aw_ret (v := some (.int _)) eX7_judge_73 ⟨rfl, rfl⟩ (by omega) (by omega) rfl ?_
        rw [ek, sJud, if_pos (Or.inl (by first | exact c_53 | exact Int32.not_le.mp c_53))] at hQ
        rw [show (100 : Int32) + nI p = nI (100 + p) from nI_add 100 p]
        exact hQ
      · have ci0 : ¬ i < 0 := by first | exact c_53 | exact Int32.not_lt.mpr c_53
        obtain ⟨b, hb, ei⟩ : ∃ b, b < 2 ^ 31 ∧ i = nI b := by
          have z := Int32.not_lt.mp ci0
          rw [Int32.le_iff_toInt_le, show (0 : Int32).toInt = 0 from by decide] at z
          have z2 := Int32.toInt_lt i
          exact ⟨i.toInt.toNat, by omega, Int32.toInt_inj.mp (by rw [nI_toInt (by omega)]; omega)⟩
        have el : (nI b).toInt64 + (nI p).toInt64 = lN (b + p) := by rw [nI_l hb, nI_l (by omega), lN_add]
        obtain ⟨q, hq, eq⟩ := (hT t ht).1
        refine aw_lload (pc' := 58) eX7_judge_56 rfl rfl ?_
        refine aw_aload_n (pc' := 59) eX7_judge_58 rfl rfl trivial ?_
        refine aw_Mref (pc' := 62) (kf := 25) 16 hM eX7_judge_59 rfl (by decide) rfl q814 ?_
        refine aw_iload_n (pc' := 63) eX7_judge_62 rfl rfl ?_
        refine aw_MaldC (pc' := 64) 16 t hM eX7_judge_63 rfl (by decide) vt clt ?_
        refine aw_i2l (pc' := 65) eX7_judge_64 rfl ?_
        refine aw_lcmp (pc' := 66) eX7_judge_65 rfl ?_
        refine aw_if_lt (pc' := 69) (tgt := 74) eX7_judge_66 rfl (by decide) (fun c_66 => ?_) (fun c_66 => ?_)
        · have hlt : ¬ (i < 0 ∨ (U.1 16 t).toNatClampNeg ≤ i.toNatClampNeg + p) := by
            rintro (z | z)
            · exact ci0 z
            · have c66 : lg_cmp (lN (b + p)) (lN q) < 0 := by rw [eq, ei, el, nI_l (n := q) (by omega)] at c_66; first | exact c_66 | exact Int32.not_le.mp c_66
              have y := (pk_lLT (by omega) (by omega)).mp ((lg_cmp_lt _ _).mp c66)
              rw [eq, ei, nI_clamp (by omega), nI_clamp (by omega)] at z
              omega
          have hbq : b + p < q := by
            refine Nat.not_le.mp fun z => hlt (Or.inr ?_)
            rw [eq, ei, nI_clamp (by omega), nI_clamp (by omega)]
            exact z
          refine aw_aload_n (pc' := 75) eX7_judge_74 rfl rfl trivial ?_
          refine aw_Mref (pc' := 78) (kf := 26) 17 hM eX7_judge_75 rfl (by decide) rfl q815 ?_
          refine aw_bipush (pc' := 80) (v := 60) eX7_judge_78 rfl (by decide) ?_
          refine aw_iload_n (pc' := 81) eX7_judge_80 rfl rfl ?_
          refine aw_imul (pc' := 82) eX7_judge_81 rfl ?_
          refine aw_lload (pc' := 84) eX7_judge_82 rfl rfl ?_
          refine aw_l2i (pc' := 85) eX7_judge_84 rfl ?_
          rw [show (i.toInt64 + (nI p).toInt64).toInt32 = nI (b + p) by rw [ei, el, lN_i]]
          have hv60 : vp_in (60 * nI t + nI (b + p)) 360 := (ix60 (by omega)).2
          have hx60 : (60 * nI t + nI (b + p)).toNatClampNeg = 60 * t + (i.toNatClampNeg + p) := by rw [(ix60 (by omega)).1, ei, nI_clamp (by omega)]
          refine aw_iadd (pc' := 86) eX7_judge_85 rfl ?_
          refine aw_Mjld (pc' := 87) 17 hM eX7_judge_86 rfl (by decide) hv60 ?_
          rw [hx60]
          refine aw_aload_n (pc' := 88) eX7_judge_87 rfl rfl trivial ?_
          refine aw_iload_n (pc' := 89) eX7_judge_88 rfl rfl ?_
          refine aw_iconst (pc' := 90) (v := 4) eX7_judge_89 rfl (by decide) ?_
          refine aw_callv (pc' := 93) (nn := 2) (c_one (d := d - 1) hM p 4 (by omega) (by omega)) eX7_judge_90 rfl ⟨q901, q904, q62⟩ q903 q22 ⟨rfl, by decide +kernel, by decide +kernel, by decide +kernel⟩ rfl (by rw [hM.2.1]; exact ⟨rfl, rfl⟩) rfl ⟨by omega, by decide⟩ ⟨by omega, by omega⟩ rfl (Nat.le_of_ble_eq_true rfl) (fun v1 h2 hq3 => ?_)
          obtain ⟨rfl, rfl⟩ := hq3
          dsimp only [Option.toList, List.cons_append, List.nil_append]
          refine aw_i2l (pc' := 94) eX7_judge_93 rfl ?_
          refine aw_lcmp (pc' := 95) eX7_judge_94 rfl ?_
          refine aw_if_eq (pc' := 98) (tgt := 100) eX7_judge_95 rfl (by decide) (fun c_95 => ?_) (fun c_95 => ?_)
          · refine aw_iinc (pc' := 103) eX7_judge_100 rfl rfl rfl (by decide) ?_
            dsimp only [zst, zst2, zcut]
            refine aw_goto eX7_judge_103 (by decide) (tgt := 34) ?_
            have e9 := (lg_cmp_eq _ _).mp (by first | exact c_95 | exact Decidable.not_not.mp c_95)
            refine ih (m - (p + 1)) (by omega) (p + 1) _ _ _ rfl (by omega) (nI_inc p) ?_
            rw [ek, sJud, if_neg hlt, if_pos e9] at hQ
            exact hQ
          · refine aw_iload_n (pc' := 99) eX7_judge_98 rfl rfl ?_
            refine aw_ret (v := some (.int _)) eX7_judge_99 ⟨rfl, rfl⟩ (by omega) (by omega) rfl ?_
            have e9 : ¬ _ = _ := fun y => c_95 ((lg_cmp_eq _ _).mpr y)
            rw [ek, sJud, if_neg hlt, if_neg e9] at hQ
            exact hQ
        · refine aw_bipush (pc' := 71) (v := 100) eX7_judge_69 rfl (by decide) ?_
          refine aw_iload_n (pc' := 72) eX7_judge_71 rfl rfl ?_
          refine aw_iadd (pc' := 73) eX7_judge_72 rfl ?_
          refine aw_ret (v := some (.int _)) eX7_judge_73 ⟨rfl, rfl⟩ (by omega) (by omega) rfl ?_
          have c66 : lg_cmp (lN (b + p)) (lN q) ≥ 0 := by rw [eq, ei, el, nI_l (n := q) (by omega)] at c_66; first | exact c_66 | exact Int32.not_lt.mp c_66
          have z := (pk_lLE (by omega) (by omega)).mp ((lg_cmp_ge _ _).mp c66)
          rw [ek, sJud, if_pos (Or.inr (by rw [eq, ei, nI_clamp (by omega), nI_clamp (by omega)]; omega))] at hQ
          rw [show (100 : Int32) + nI p = nI (100 + p) from nI_add 100 p]
          exact hQ
theorem c_X7_judge (hM : MAt h u U) {m : Nat} (hm : mOk U m) (hT : mT U) (t i : Int32) (hd : 2 ≤ d) : Ct l G mX7_judge yX7_judge d 0 0 [.ref u, .int t, .int i] h (fun r h' => r = some (.int (sJudge U m t i)) ∧ h' = h) := by
  refine ct_of (lv := [some (.ref u), some (.int t), some (.int i), none, none, none]) (by decide +kernel) rfl (fun z => by cases z) (fun _ => rfl) (fun _ => Nat.le_of_ble_eq_true rfl) ?_
  refine aw_iload_n (pc' := 1) eX7_judge_0 rfl rfl ?_
  refine aw_calls (pc' := 4) (nn := 1) (c_X7_isTape (d := d - 1) _ (by omega)) eX7_judge_1 rfl ⟨q1146, q1148, q62⟩ q1147 ⟨by decide +kernel, by decide +kernel, by decide +kernel⟩ rfl ⟨by omega, by decide⟩ ⟨by omega, by omega⟩ rfl (Nat.le_of_ble_eq_true rfl) (fun v1 h2 hq3 => ?_)
  obtain ⟨rfl, rfl⟩ := hq3
  dsimp only [Option.toList, List.cons_append, List.nil_append]
  refine aw_if_ne (pc' := 7) (tgt := 9) eX7_judge_4 rfl (by decide) (fun c_4 => ?_) (fun c_4 => ?_)
  · simp only [zb_eq0, Bool.not_eq_false, Bool.not_eq_true, decide_eq_true_eq, decide_eq_false_iff_not, Decidable.not_not] at c_4
    have c4 := c_4
    obtain ⟨t, ht, rfl⟩ := (bIn_lit (N := 5) (by omega)).mp c4
    have clt : (nI t).toNatClampNeg = t := nI_clamp (by omega)
    have vt : vp_in (nI t) 6 := vp_in_nI (by omega) (by omega)
    refine aw_aload_n (pc' := 10) eX7_judge_9 rfl rfl trivial ?_
    refine aw_Mref (pc' := 13) (kf := 24) 15 hM eX7_judge_10 rfl (by decide) rfl q813 ?_
    refine aw_iload_n (pc' := 14) eX7_judge_13 rfl rfl ?_
    refine aw_MaldC (pc' := 15) 15 t hM eX7_judge_14 rfl (by decide) vt clt ?_
    refine aw_iconst (pc' := 16) (v := -1) eX7_judge_15 rfl (by decide) ?_
    refine aw_icmp_eq (pc' := 19) (tgt := 32) eX7_judge_16 rfl (by decide) (fun c_16 => ?_) (fun c_16 => ?_)
    · refine aw_iconst (pc' := 33) (v := 0) eX7_judge_32 rfl (by decide) ?_
      refine aw_istore_n (pc' := 34) eX7_judge_33 rfl (by decide) ?_
      dsimp only [zst, zst2, zcut]
      exact lp_X7_judge hM hm hT (t := t) (by omega) (by omega) m 0 _ _ _ (by omega) (by omega) rfl ⟨by rw [sJudge, if_pos c4, clt, if_pos (Or.inl (by first | exact c_16 | exact Decidable.not_not.mp c_16))]; rfl, rfl⟩
    · refine aw_aload_n (pc' := 20) eX7_judge_19 rfl rfl trivial ?_
      refine aw_Mref (pc' := 23) (kf := 24) 15 hM eX7_judge_20 rfl (by decide) rfl q813 ?_
      refine aw_iload_n (pc' := 24) eX7_judge_23 rfl rfl ?_
      refine aw_MaldC (pc' := 25) 15 t hM eX7_judge_24 rfl (by decide) vt clt ?_
      refine aw_iconst (pc' := 26) (v := 2) eX7_judge_25 rfl (by decide) ?_
      refine aw_icmp_eq (pc' := 29) (tgt := 32) eX7_judge_26 rfl (by decide) (fun c_26 => ?_) (fun c_26 => ?_)
      · refine aw_iconst (pc' := 33) (v := 0) eX7_judge_32 rfl (by decide) ?_
        refine aw_istore_n (pc' := 34) eX7_judge_33 rfl (by decide) ?_
        dsimp only [zst, zst2, zcut]
        exact lp_X7_judge hM hm hT (t := t) (by omega) (by omega) m 0 _ _ _ (by omega) (by omega) rfl ⟨by rw [sJudge, if_pos c4, clt, if_pos (Or.inr (by first | exact c_26 | exact Decidable.not_not.mp c_26))]; rfl, rfl⟩
      · refine aw_bipush (pc' := 31) (v := -12) eX7_judge_29 rfl (by decide) ?_
        refine aw_ret (v := some (.int _)) eX7_judge_31 ⟨rfl, rfl⟩ (by omega) (by omega) rfl ?_
        exact ⟨by rw [sJudge, if_pos c4, clt, if_neg (fun z => z.elim (fun y => c_16 y) (fun y => c_26 y))], rfl⟩
  · refine aw_iconst (pc' := 8) (v := -1) eX7_judge_7 rfl (by decide) ?_
    refine aw_ret (v := some (.int _)) eX7_judge_8 ⟨rfl, rfl⟩ (by omega) (by omega) rfl ?_
    try simp only [zb_eq0, Bool.not_eq_false, Bool.not_eq_true, decide_eq_true_eq, decide_eq_false_iff_not, Decidable.not_not] at c_4
    exact ⟨by rw [sJudge, if_neg (by rw [c_4]; decide)], rfl⟩
def sShOk (U : MS) (t o i j n : Int32) : Bool := !(decide (n < 0) || decide (i < 0) || decide (j < 0) || decide (U.1 16 t.toNatClampNeg - i < n) || decide (U.1 16 o.toNatClampNeg - j < n))
def sShV (U : MS) (t o i j n : Nat) : Nat → Int64 := fun q => if 60 * o + j ≤ q ∧ q < 60 * o + j + n then U.2.2 17 (60 * t + i + (q - (60 * o + j))) else U.2.2 17 q
def sShift (U : MS) (t i o j n : Int32) : Int32 × (Nat → Int64) := if bIn t 0 5 = true ∧ bIn o 0 5 = true then if U.1 15 t.toNatClampNeg < 0 ∨ U.1 15 o.toNatClampNeg < 0 then (-11, U.2.2 17) else if U.1 15 t.toNatClampNeg = U.1 15 o.toNatClampNeg then if sShOk U t o i j n = true then (n, sShV U t.toNatClampNeg o.toNatClampNeg i.toNatClampNeg j.toNatClampNeg n.toNatClampNeg) else (-13, U.2.2 17) else (-12, U.2.2 17) else (-1, U.2.2 17)
theorem sh_lt {a i n : Int32} {q : Nat} (ha : a = nI q) (hq : q ≤ 60) (hi : ¬ i < 0) (hn : ¬ n < 0) (h : ¬ a - i < n) : ∃ b c, i = nI b ∧ n = nI c ∧ b + c ≤ q := by
  have hi2 := Int32.not_lt.mp hi
  have hn2 := Int32.not_lt.mp hn
  have h2 := Int32.not_lt.mp h
  rw [Int32.le_iff_toInt_le, show (0 : Int32).toInt = 0 from by decide] at hi2 hn2
  rw [Int32.le_iff_toInt_le, Int32.toInt_sub, ha, nI_toInt (by omega)] at h2
  have hi3 := Int32.toInt_lt i
  have hn3 := Int32.toInt_lt n
  rw [Int.bmod_eq_of_le (by omega) (by omega)] at h2
  exact ⟨i.toInt.toNat, n.toInt.toNat, Int32.toInt_inj.mp (by rw [nI_toInt (by omega)]; omega), Int32.toInt_inj.mp (by rw [nI_toInt (by omega)]; omega), by omega⟩
theorem ix60b {t i k : Nat} (h : 60 * t + i + k < 360) : (60 * nI t + nI i + nI k).toNatClampNeg = 60 * t + i + k ∧ vp_in (60 * nI t + nI i + nI k) 360 := by
  have e : 60 * nI t + nI i + nI k = nI (60 * t + i + k) := by rw [show 60 * nI t + nI i = nI (60 * t + i) from nI_muladd 60 t i, nI_add]
  rw [e]
  exact ⟨nI_clamp (by omega), vp_in_nI h (by omega)⟩
abbrev mX7_shift : MT := (RX7, cX7_shift, 7, (some .int), false)
theorem eX7_shift_0 : decode mX7_shift.2.1 0 = .ok (.iload_n 1, 1) := by decide +kernel
theorem eX7_shift_1 : decode mX7_shift.2.1 1 = .ok (.invokestatic 249, 3) := by decide +kernel
theorem eX7_shift_4 : decode mX7_shift.2.1 4 = .ok (.ifCond .eq 10, 3) := by decide +kernel
theorem eX7_shift_7 : decode mX7_shift.2.1 7 = .ok (.iload_n 3, 1) := by decide +kernel
theorem eX7_shift_8 : decode mX7_shift.2.1 8 = .ok (.invokestatic 249, 3) := by decide +kernel
theorem eX7_shift_11 : decode mX7_shift.2.1 11 = .ok (.ifCond .ne 5, 3) := by decide +kernel
theorem eX7_shift_14 : decode mX7_shift.2.1 14 = .ok (.iconst (-1), 1) := by decide +kernel
theorem eX7_shift_15 : decode mX7_shift.2.1 15 = .ok (.ireturn, 1) := by decide +kernel
theorem eX7_shift_16 : decode mX7_shift.2.1 16 = .ok (.aload_n 0, 1) := by decide +kernel
theorem eX7_shift_17 : decode mX7_shift.2.1 17 = .ok (.getfield 59, 3) := by decide +kernel
theorem eX7_shift_20 : decode mX7_shift.2.1 20 = .ok (.iload_n 1, 1) := by decide +kernel
theorem eX7_shift_21 : decode mX7_shift.2.1 21 = .ok (.iaload, 1) := by decide +kernel
theorem eX7_shift_22 : decode mX7_shift.2.1 22 = .ok (.ifCond .lt 12, 3) := by decide +kernel
theorem eX7_shift_25 : decode mX7_shift.2.1 25 = .ok (.aload_n 0, 1) := by decide +kernel
theorem eX7_shift_26 : decode mX7_shift.2.1 26 = .ok (.getfield 59, 3) := by decide +kernel
theorem eX7_shift_29 : decode mX7_shift.2.1 29 = .ok (.iload_n 3, 1) := by decide +kernel
theorem eX7_shift_30 : decode mX7_shift.2.1 30 = .ok (.iaload, 1) := by decide +kernel
theorem eX7_shift_31 : decode mX7_shift.2.1 31 = .ok (.ifCond .ge 6, 3) := by decide +kernel
theorem eX7_shift_34 : decode mX7_shift.2.1 34 = .ok (.bipush (-11), 2) := by decide +kernel
theorem eX7_shift_36 : decode mX7_shift.2.1 36 = .ok (.ireturn, 1) := by decide +kernel
theorem eX7_shift_37 : decode mX7_shift.2.1 37 = .ok (.aload_n 0, 1) := by decide +kernel
theorem eX7_shift_38 : decode mX7_shift.2.1 38 = .ok (.getfield 59, 3) := by decide +kernel
theorem eX7_shift_41 : decode mX7_shift.2.1 41 = .ok (.iload_n 1, 1) := by decide +kernel
theorem eX7_shift_42 : decode mX7_shift.2.1 42 = .ok (.iaload, 1) := by decide +kernel
theorem eX7_shift_43 : decode mX7_shift.2.1 43 = .ok (.aload_n 0, 1) := by decide +kernel
theorem eX7_shift_44 : decode mX7_shift.2.1 44 = .ok (.getfield 59, 3) := by decide +kernel
theorem eX7_shift_47 : decode mX7_shift.2.1 47 = .ok (.iload_n 3, 1) := by decide +kernel
theorem eX7_shift_48 : decode mX7_shift.2.1 48 = .ok (.iaload, 1) := by decide +kernel
theorem eX7_shift_49 : decode mX7_shift.2.1 49 = .ok (.if_icmp .eq 6, 3) := by decide +kernel
theorem eX7_shift_52 : decode mX7_shift.2.1 52 = .ok (.bipush (-12), 2) := by decide +kernel
theorem eX7_shift_54 : decode mX7_shift.2.1 54 = .ok (.ireturn, 1) := by decide +kernel
theorem eX7_shift_55 : decode mX7_shift.2.1 55 = .ok (.iload 5, 2) := by decide +kernel
theorem eX7_shift_57 : decode mX7_shift.2.1 57 = .ok (.ifCond .lt 39, 3) := by decide +kernel
theorem eX7_shift_60 : decode mX7_shift.2.1 60 = .ok (.iload_n 2, 1) := by decide +kernel
theorem eX7_shift_61 : decode mX7_shift.2.1 61 = .ok (.ifCond .lt 35, 3) := by decide +kernel
theorem eX7_shift_64 : decode mX7_shift.2.1 64 = .ok (.iload 4, 2) := by decide +kernel
theorem eX7_shift_66 : decode mX7_shift.2.1 66 = .ok (.ifCond .lt 30, 3) := by decide +kernel
theorem eX7_shift_69 : decode mX7_shift.2.1 69 = .ok (.iload 5, 2) := by decide +kernel
theorem eX7_shift_71 : decode mX7_shift.2.1 71 = .ok (.aload_n 0, 1) := by decide +kernel
theorem eX7_shift_72 : decode mX7_shift.2.1 72 = .ok (.getfield 62, 3) := by decide +kernel
theorem eX7_shift_75 : decode mX7_shift.2.1 75 = .ok (.iload_n 1, 1) := by decide +kernel
theorem eX7_shift_76 : decode mX7_shift.2.1 76 = .ok (.iaload, 1) := by decide +kernel
theorem eX7_shift_77 : decode mX7_shift.2.1 77 = .ok (.iload_n 2, 1) := by decide +kernel
theorem eX7_shift_78 : decode mX7_shift.2.1 78 = .ok (.isub, 1) := by decide +kernel
theorem eX7_shift_79 : decode mX7_shift.2.1 79 = .ok (.if_icmp .gt 17, 3) := by decide +kernel
theorem eX7_shift_82 : decode mX7_shift.2.1 82 = .ok (.iload 5, 2) := by decide +kernel
theorem eX7_shift_84 : decode mX7_shift.2.1 84 = .ok (.aload_n 0, 1) := by decide +kernel
theorem eX7_shift_85 : decode mX7_shift.2.1 85 = .ok (.getfield 62, 3) := by decide +kernel
theorem eX7_shift_88 : decode mX7_shift.2.1 88 = .ok (.iload_n 3, 1) := by decide +kernel
theorem eX7_shift_89 : decode mX7_shift.2.1 89 = .ok (.iaload, 1) := by decide +kernel
theorem eX7_shift_90 : decode mX7_shift.2.1 90 = .ok (.iload 4, 2) := by decide +kernel
theorem eX7_shift_92 : decode mX7_shift.2.1 92 = .ok (.isub, 1) := by decide +kernel
theorem eX7_shift_93 : decode mX7_shift.2.1 93 = .ok (.if_icmp .le 6, 3) := by decide +kernel
theorem eX7_shift_96 : decode mX7_shift.2.1 96 = .ok (.bipush (-13), 2) := by decide +kernel
theorem eX7_shift_98 : decode mX7_shift.2.1 98 = .ok (.ireturn, 1) := by decide +kernel
theorem eX7_shift_99 : decode mX7_shift.2.1 99 = .ok (.iconst 0, 1) := by decide +kernel
theorem eX7_shift_100 : decode mX7_shift.2.1 100 = .ok (.istore 6, 2) := by decide +kernel
theorem eX7_shift_102 : decode mX7_shift.2.1 102 = .ok (.iload 6, 2) := by decide +kernel
theorem eX7_shift_104 : decode mX7_shift.2.1 104 = .ok (.iload 5, 2) := by decide +kernel
theorem eX7_shift_106 : decode mX7_shift.2.1 106 = .ok (.if_icmp .ge 30, 3) := by decide +kernel
theorem eX7_shift_109 : decode mX7_shift.2.1 109 = .ok (.aload_n 0, 1) := by decide +kernel
theorem eX7_shift_110 : decode mX7_shift.2.1 110 = .ok (.getfield 69, 3) := by decide +kernel
theorem eX7_shift_113 : decode mX7_shift.2.1 113 = .ok (.iload 6, 2) := by decide +kernel
theorem eX7_shift_115 : decode mX7_shift.2.1 115 = .ok (.aload_n 0, 1) := by decide +kernel
theorem eX7_shift_116 : decode mX7_shift.2.1 116 = .ok (.getfield 65, 3) := by decide +kernel
theorem eX7_shift_119 : decode mX7_shift.2.1 119 = .ok (.bipush 60, 2) := by decide +kernel
theorem eX7_shift_121 : decode mX7_shift.2.1 121 = .ok (.iload_n 1, 1) := by decide +kernel
theorem eX7_shift_122 : decode mX7_shift.2.1 122 = .ok (.imul, 1) := by decide +kernel
theorem eX7_shift_123 : decode mX7_shift.2.1 123 = .ok (.iload_n 2, 1) := by decide +kernel
theorem eX7_shift_124 : decode mX7_shift.2.1 124 = .ok (.iadd, 1) := by decide +kernel
theorem eX7_shift_125 : decode mX7_shift.2.1 125 = .ok (.iload 6, 2) := by decide +kernel
theorem eX7_shift_127 : decode mX7_shift.2.1 127 = .ok (.iadd, 1) := by decide +kernel
theorem eX7_shift_128 : decode mX7_shift.2.1 128 = .ok (.laload, 1) := by decide +kernel
theorem eX7_shift_129 : decode mX7_shift.2.1 129 = .ok (.lastore, 1) := by decide +kernel
theorem eX7_shift_130 : decode mX7_shift.2.1 130 = .ok (.iinc 6 1, 3) := by decide +kernel
theorem eX7_shift_133 : decode mX7_shift.2.1 133 = .ok (.goto (-31), 3) := by decide +kernel
theorem eX7_shift_136 : decode mX7_shift.2.1 136 = .ok (.iconst 0, 1) := by decide +kernel
theorem eX7_shift_137 : decode mX7_shift.2.1 137 = .ok (.istore 6, 2) := by decide +kernel
theorem eX7_shift_139 : decode mX7_shift.2.1 139 = .ok (.iload 6, 2) := by decide +kernel
theorem eX7_shift_141 : decode mX7_shift.2.1 141 = .ok (.iload 5, 2) := by decide +kernel
theorem eX7_shift_143 : decode mX7_shift.2.1 143 = .ok (.if_icmp .ge 31, 3) := by decide +kernel
theorem eX7_shift_146 : decode mX7_shift.2.1 146 = .ok (.aload_n 0, 1) := by decide +kernel
theorem eX7_shift_147 : decode mX7_shift.2.1 147 = .ok (.getfield 65, 3) := by decide +kernel
theorem eX7_shift_150 : decode mX7_shift.2.1 150 = .ok (.bipush 60, 2) := by decide +kernel
theorem eX7_shift_152 : decode mX7_shift.2.1 152 = .ok (.iload_n 3, 1) := by decide +kernel
theorem eX7_shift_153 : decode mX7_shift.2.1 153 = .ok (.imul, 1) := by decide +kernel
theorem eX7_shift_154 : decode mX7_shift.2.1 154 = .ok (.iload 4, 2) := by decide +kernel
theorem eX7_shift_156 : decode mX7_shift.2.1 156 = .ok (.iadd, 1) := by decide +kernel
theorem eX7_shift_157 : decode mX7_shift.2.1 157 = .ok (.iload 6, 2) := by decide +kernel
theorem eX7_shift_159 : decode mX7_shift.2.1 159 = .ok (.iadd, 1) := by decide +kernel
theorem eX7_shift_160 : decode mX7_shift.2.1 160 = .ok (.aload_n 0, 1) := by decide +kernel
theorem eX7_shift_161 : decode mX7_shift.2.1 161 = .ok (.getfield 69, 3) := by decide +kernel
theorem eX7_shift_164 : decode mX7_shift.2.1 164 = .ok (.iload 6, 2) := by decide +kernel
theorem eX7_shift_166 : decode mX7_shift.2.1 166 = .ok (.laload, 1) := by decide +kernel
theorem eX7_shift_167 : decode mX7_shift.2.1 167 = .ok (.lastore, 1) := by decide +kernel
theorem eX7_shift_168 : decode mX7_shift.2.1 168 = .ok (.iinc 6 1, 3) := by decide +kernel
theorem eX7_shift_171 : decode mX7_shift.2.1 171 = .ok (.goto (-32), 3) := by decide +kernel
theorem eX7_shift_174 : decode mX7_shift.2.1 174 = .ok (.iload 5, 2) := by decide +kernel
theorem eX7_shift_176 : decode mX7_shift.2.1 176 = .ok (.ireturn, 1) := by decide +kernel
theorem lp1_X7_shift {V : MS} {t i n : Nat} (ht : t < 6) (hin : i + n ≤ 60) {x3 x4 : Int32} {h0 : Hp} (hQ : ∀ h' y', MAt h' u (msL V 18 (fun q => if q < n then V.2.2 17 (60 * t + i + q) else V.2.2 18 q)) → Same u 19 h0 h' → AW l G mX7_shift d 0 0 Q 0 0 h' [some (.ref u), some (.int (nI t)), some (.int (nI i)), some (.int x3), some (.int x4), some (.int (nI n)), some (.int y')] [] 136) : ∀ (j k : Nat) (y : Int32) (h : Hp), j = n - k → k ≤ n → y = nI k → MAt h u (msL V 18 (fun q => if q < k then V.2.2 17 (60 * t + i + q) else V.2.2 18 q)) → Same u 19 h0 h → AW l G mX7_shift d 0 0 Q 0 0 h [some (.ref u), some (.int (nI t)), some (.int (nI i)), some (.int x3), some (.int x4), some (.int (nI n)), some (.int y)] [] 102 := by
  intro j
  induction j using Nat.strongRecOn with
  | _ j ih =>
    intro k y h hj hk hy hM hs
    subst hy
    refine aw_iload (pc' := 104) eX7_shift_102 rfl rfl ?_
    refine aw_iload (pc' := 106) eX7_shift_104 rfl rfl ?_
    refine aw_icmp_ge (pc' := 109) (tgt := 136) eX7_shift_106 rfl (by decide) (fun c_106 => ?_) (fun c_106 => ?_)
    · have c9 := ge_nI (by omega) (by omega) c_106
      obtain rfl : k = n := by omega
      exact hQ _ _ hM hs
    · have c9 := nge_nI (by omega) (by omega) c_106
      refine aw_aload_n (pc' := 110) eX7_shift_109 rfl rfl trivial ?_
      refine aw_Mref (pc' := 113) (kf := 27) 18 hM eX7_shift_110 rfl (by decide) rfl q816 ?_
      refine aw_iload (pc' := 115) eX7_shift_113 rfl rfl ?_
      refine aw_aload_n (pc' := 116) eX7_shift_115 rfl rfl trivial ?_
      refine aw_Mref (pc' := 119) (kf := 26) 17 hM eX7_shift_116 rfl (by decide) rfl q815 ?_
      refine aw_bipush (pc' := 121) (v := 60) eX7_shift_119 rfl (by decide) ?_
      refine aw_iload_n (pc' := 122) eX7_shift_121 rfl rfl ?_
      refine aw_imul (pc' := 123) eX7_shift_122 rfl ?_
      refine aw_iload_n (pc' := 124) eX7_shift_123 rfl rfl ?_
      refine aw_iadd (pc' := 125) eX7_shift_124 rfl ?_
      refine aw_iload (pc' := 127) eX7_shift_125 rfl rfl ?_
      refine aw_iadd (pc' := 128) eX7_shift_127 rfl ?_
      refine aw_Mjld (pc' := 129) 17 hM eX7_shift_128 rfl (by decide) (show vp_in _ 360 from (ix60b (t := t) (i := i) (k := k) (by omega)).2) ?_
      refine aw_Mjst (pc' := 130) 18 hM eX7_shift_129 rfl (by decide) (show vp_in _ 60 from vp_in_nI (by omega) (by omega)) (fun h3 hM1 hs2 => ?_)
      refine aw_iinc (pc' := 133) eX7_shift_130 rfl rfl rfl (by decide) ?_
      dsimp only [zst, zst2, zcut]
      refine aw_goto eX7_shift_133 (by decide) (tgt := 102) ?_
      refine ih (n - (k + 1)) (by omega) (k + 1) _ _ rfl (by omega) (nI_inc k) ?_ (hs.tr hs2)
      have hM9 := hM1
      rw [nI_clamp (n := k) (by omega), (ix60b (t := t) (i := i) (k := k) (by omega)).1, mupL_msL, msL_set, msL_eq] at hM9
      refine hM9.gsL fun q hq => ?_
      rw [updL_if]
      show (if q = k then V.2.2 17 (60 * t + i + k) else if q < k then V.2.2 17 (60 * t + i + q) else V.2.2 18 q) = _
      by_cases e : q = k
      · rw [if_pos e, if_pos (by omega), e]
      · rw [if_neg e]
        by_cases e2 : q < k
        · rw [if_pos e2, if_pos (by omega)]
        · rw [if_neg e2, if_neg (by omega)]
theorem lp2_X7_shift {V : MS} {o j n : Nat} (ht : o < 6) (hin : j + n ≤ 60) {x1 x2 : Int32} {h0 : Hp} (hQ : ∀ h', MAt h' u (msL V 17 (fun q => if 60 * o + j ≤ q ∧ q < 60 * o + j + n then V.2.2 18 (q - (60 * o + j)) else V.2.2 17 q)) → Same u 19 h0 h' → Q (some (.int (nI n))) h') : ∀ (jj k : Nat) (y : Int32) (h : Hp), jj = n - k → k ≤ n → y = nI k → MAt h u (msL V 17 (fun q => if 60 * o + j ≤ q ∧ q < 60 * o + j + k then V.2.2 18 (q - (60 * o + j)) else V.2.2 17 q)) → Same u 19 h0 h → AW l G mX7_shift d 0 0 Q 0 0 h [some (.ref u), some (.int x1), some (.int x2), some (.int (nI o)), some (.int (nI j)), some (.int (nI n)), some (.int y)] [] 139 := by
  intro jj
  induction jj using Nat.strongRecOn with
  | _ jj ih =>
    intro k y h hj hk hy hM hs
    subst hy
    refine aw_iload (pc' := 141) eX7_shift_139 rfl rfl ?_
    refine aw_iload (pc' := 143) eX7_shift_141 rfl rfl ?_
    refine aw_icmp_ge (pc' := 146) (tgt := 174) eX7_shift_143 rfl (by decide) (fun c_143 => ?_) (fun c_143 => ?_)
    · have c9 := ge_nI (by omega) (by omega) c_143
      obtain rfl : k = n := by omega
      refine aw_iload (pc' := 176) eX7_shift_174 rfl rfl ?_
      refine aw_ret (v := some (.int _)) eX7_shift_176 ⟨rfl, rfl⟩ (by omega) (by omega) rfl ?_
      exact hQ _ hM hs
    · have c9 := nge_nI (by omega) (by omega) c_143
      refine aw_aload_n (pc' := 147) eX7_shift_146 rfl rfl trivial ?_
      refine aw_Mref (pc' := 150) (kf := 26) 17 hM eX7_shift_147 rfl (by decide) rfl q815 ?_
      refine aw_bipush (pc' := 152) (v := 60) eX7_shift_150 rfl (by decide) ?_
      refine aw_iload_n (pc' := 153) eX7_shift_152 rfl rfl ?_
      refine aw_imul (pc' := 154) eX7_shift_153 rfl ?_
      refine aw_iload (pc' := 156) eX7_shift_154 rfl rfl ?_
      refine aw_iadd (pc' := 157) eX7_shift_156 rfl ?_
      refine aw_iload (pc' := 159) eX7_shift_157 rfl rfl ?_
      refine aw_iadd (pc' := 160) eX7_shift_159 rfl ?_
      refine aw_aload_n (pc' := 161) eX7_shift_160 rfl rfl trivial ?_
      refine aw_Mref (pc' := 164) (kf := 27) 18 hM eX7_shift_161 rfl (by decide) rfl q816 ?_
      refine aw_iload (pc' := 166) eX7_shift_164 rfl rfl ?_
      refine aw_Mjld (pc' := 167) 18 hM eX7_shift_166 rfl (by decide) (show vp_in _ 60 from vp_in_nI (by omega) (by omega)) ?_
      refine aw_Mjst (pc' := 168) 17 hM eX7_shift_167 rfl (by decide) (show vp_in _ 360 from (ix60b (t := o) (i := j) (k := k) (by omega)).2) (fun h3 hM1 hs2 => ?_)
      refine aw_iinc (pc' := 171) eX7_shift_168 rfl rfl rfl (by decide) ?_
      dsimp only [zst, zst2, zcut]
      refine aw_goto eX7_shift_171 (by decide) (tgt := 139) ?_
      refine ih (n - (k + 1)) (by omega) (k + 1) _ _ rfl (by omega) (nI_inc k) ?_ (hs.tr hs2)
      have hM9 := hM1
      rw [nI_clamp (n := k) (by omega), (ix60b (t := o) (i := j) (k := k) (by omega)).1, mupL_msL, msL_set, msL_eq] at hM9
      refine hM9.gsL fun q hq => ?_
      rw [updL_if]
      show (if q = 60 * o + j + k then V.2.2 18 k else if 60 * o + j ≤ q ∧ q < 60 * o + j + k then V.2.2 18 (q - (60 * o + j)) else V.2.2 17 q) = _
      by_cases e : q = 60 * o + j + k
      · rw [if_pos e, if_pos (by omega)]
        exact congrArg (V.2.2 18) (by omega)
      · rw [if_neg e]
        by_cases e2 : 60 * o + j ≤ q ∧ q < 60 * o + j + k
        · rw [if_pos e2, if_pos (by omega)]
        · rw [if_neg e2, if_neg (by omega)]
theorem c_X7_shift (hM : MAt h u U) (hT : mT U) (t i o j n : Int32) (hd : 2 ≤ d) : Ct l G mX7_shift yX7_shift d 0 0 [.ref u, .int t, .int i, .int o, .int j, .int n] h (fun r h' => r = some (.int (sShift U t i o j n).1) ∧ ∃ f, MAt h' u (msL (msL U 18 f) 17 (sShift U t i o j n).2) ∧ Same u 19 h h') := by
  refine ct_of (lv := [some (.ref u), some (.int t), some (.int i), some (.int o), some (.int j), some (.int n), none]) (by decide +kernel) rfl (fun z => by cases z) (fun _ => rfl) (fun _ => Nat.le_of_ble_eq_true rfl) ?_
  refine aw_iload_n (pc' := 1) eX7_shift_0 rfl rfl ?_
  refine aw_calls (pc' := 4) (nn := 1) (c_X7_isTape (d := d - 1) _ (by omega)) eX7_shift_1 rfl ⟨q1146, q1148, q62⟩ q1147 ⟨by decide +kernel, by decide +kernel, by decide +kernel⟩ rfl ⟨by omega, by decide⟩ ⟨by omega, by omega⟩ rfl (Nat.le_of_ble_eq_true rfl) (fun v1 h2 hq3 => ?_)
  obtain ⟨rfl, rfl⟩ := hq3
  dsimp only [Option.toList, List.cons_append, List.nil_append]
  refine aw_if_eq (pc' := 7) (tgt := 14) eX7_shift_4 rfl (by decide) (fun c_4 => ?_) (fun c_4 => ?_)
  · refine aw_iconst (pc' := 15) (v := -1) eX7_shift_14 rfl (by decide) ?_
    refine aw_ret (v := some (.int _)) eX7_shift_15 ⟨rfl, rfl⟩ (by omega) (by omega) rfl ?_
    try simp only [zb_eq0, Bool.not_eq_false, Bool.not_eq_true, decide_eq_true_eq, decide_eq_false_iff_not, Decidable.not_not] at c_4
    exact ⟨by rw [sShift, if_neg (by rw [c_4]; simp)], U.2.2 18, by rw [sShift, if_neg (by rw [c_4]; simp)]; exact MAt.idL (j := 17) (MAt.idL (j := 18) hM fun _ _ => rfl) fun _ _ => rfl, Same.rf⟩
  · simp only [zb_eq0, Bool.not_eq_false, Bool.not_eq_true, decide_eq_true_eq, decide_eq_false_iff_not, Decidable.not_not] at c_4
    have c4 := c_4
    obtain ⟨t, ht, rfl⟩ := (bIn_lit (N := 5) (by omega)).mp c4
    have clt : (nI t).toNatClampNeg = t := nI_clamp (by omega)
    have vt : vp_in (nI t) 6 := vp_in_nI (by omega) (by omega)
    refine aw_iload_n (pc' := 8) eX7_shift_7 rfl rfl ?_
    refine aw_calls (pc' := 11) (nn := 1) (c_X7_isTape (d := d - 1) _ (by omega)) eX7_shift_8 rfl ⟨q1146, q1148, q62⟩ q1147 ⟨by decide +kernel, by decide +kernel, by decide +kernel⟩ rfl ⟨by omega, by decide⟩ ⟨by omega, by omega⟩ rfl (Nat.le_of_ble_eq_true rfl) (fun v4 h5 hq6 => ?_)
    obtain ⟨rfl, rfl⟩ := hq6
    dsimp only [Option.toList, List.cons_append, List.nil_append]
    refine aw_if_ne (pc' := 14) (tgt := 16) eX7_shift_11 rfl (by decide) (fun c_11 => ?_) (fun c_11 => ?_)
    · simp only [zb_eq0, Bool.not_eq_false, Bool.not_eq_true, decide_eq_true_eq, decide_eq_false_iff_not, Decidable.not_not] at c_11
      have c11 := c_11
      obtain ⟨o, ho, rfl⟩ := (bIn_lit (N := 5) (by omega)).mp c11
      have clo : (nI o).toNatClampNeg = o := nI_clamp (by omega)
      have vo : vp_in (nI o) 6 := vp_in_nI (by omega) (by omega)
      refine aw_aload_n (pc' := 17) eX7_shift_16 rfl rfl trivial ?_
      refine aw_Mref (pc' := 20) (kf := 24) 15 hM eX7_shift_17 rfl (by decide) rfl q813 ?_
      refine aw_iload_n (pc' := 21) eX7_shift_20 rfl rfl ?_
      refine aw_MaldC (pc' := 22) 15 t hM eX7_shift_21 rfl (by decide) vt clt ?_
      refine aw_if_lt (pc' := 25) (tgt := 34) eX7_shift_22 rfl (by decide) (fun c_22 => ?_) (fun c_22 => ?_)
      · refine aw_bipush (pc' := 36) (v := -11) eX7_shift_34 rfl (by decide) ?_
        refine aw_ret (v := some (.int _)) eX7_shift_36 ⟨rfl, rfl⟩ (by omega) (by omega) rfl ?_
        exact ⟨by rw [sShift, if_pos ⟨c4, c11⟩, clt, clo, if_pos (Or.inl (by first | exact c_22 | exact Int32.not_le.mp c_22))], U.2.2 18, by rw [sShift, if_pos ⟨c4, c11⟩, clt, clo, if_pos (Or.inl (by first | exact c_22 | exact Int32.not_le.mp c_22))]; exact MAt.idL (j := 17) (MAt.idL (j := 18) hM fun _ _ => rfl) fun _ _ => rfl, Same.rf⟩
      · refine aw_aload_n (pc' := 26) eX7_shift_25 rfl rfl trivial ?_
        refine aw_Mref (pc' := 29) (kf := 24) 15 hM eX7_shift_26 rfl (by decide) rfl q813 ?_
        refine aw_iload_n (pc' := 30) eX7_shift_29 rfl rfl ?_
        refine aw_MaldC (pc' := 31) 15 o hM eX7_shift_30 rfl (by decide) vo clo ?_
        refine aw_if_ge (pc' := 34) (tgt := 37) eX7_shift_31 rfl (by decide) (fun c_31 => ?_) (fun c_31 => ?_)
        · have hs2 : ¬ (U.1 15 t < 0 ∨ U.1 15 o < 0) := fun z => z.elim (fun y => absurd y (by first | exact c_22 | exact Int32.not_lt.mpr c_22)) (fun y => absurd y (by first | exact c_31 | exact Int32.not_lt.mpr c_31))
          refine aw_aload_n (pc' := 38) eX7_shift_37 rfl rfl trivial ?_
          refine aw_Mref (pc' := 41) (kf := 24) 15 hM eX7_shift_38 rfl (by decide) rfl q813 ?_
          refine aw_iload_n (pc' := 42) eX7_shift_41 rfl rfl ?_
          refine aw_MaldC (pc' := 43) 15 t hM eX7_shift_42 rfl (by decide) vt clt ?_
          refine aw_aload_n (pc' := 44) eX7_shift_43 rfl rfl trivial ?_
          refine aw_Mref (pc' := 47) (kf := 24) 15 hM eX7_shift_44 rfl (by decide) rfl q813 ?_
          refine aw_iload_n (pc' := 48) eX7_shift_47 rfl rfl ?_
          refine aw_MaldC (pc' := 49) 15 o hM eX7_shift_48 rfl (by decide) vo clo ?_
          refine aw_icmp_eq (pc' := 52) (tgt := 55) eX7_shift_49 rfl (by decide) (fun c_49 => ?_) (fun c_49 => ?_)
          · have hse : U.1 15 t = U.1 15 o := by first | exact c_49 | exact Decidable.not_not.mp c_49
            refine aw_iload (pc' := 57) eX7_shift_55 rfl rfl ?_
            refine aw_if_lt (pc' := 60) (tgt := 96) eX7_shift_57 rfl (by decide) (fun c_57 => ?_) (fun c_57 => ?_)
            · refine aw_bipush (pc' := 98) (v := -13) eX7_shift_96 rfl (by decide) ?_
              refine aw_ret (v := some (.int _)) eX7_shift_98 ⟨rfl, rfl⟩ (by omega) (by omega) rfl ?_
              have hx : n < 0 := by first | exact c_57 | exact Int32.not_le.mp c_57
              have eo : sShOk U (nI t) (nI o) i j n = false := by rw [sShOk, clt, clo]; simp [hx]
              exact ⟨by rw [sShift, if_pos ⟨c4, c11⟩, clt, clo, if_neg hs2, if_pos hse, if_neg (by rw [eo]; decide)], U.2.2 18, by rw [sShift, if_pos ⟨c4, c11⟩, clt, clo, if_neg hs2, if_pos hse, if_neg (by rw [eo]; decide)]; exact MAt.idL (j := 17) (MAt.idL (j := 18) hM fun _ _ => rfl) fun _ _ => rfl, Same.rf⟩
            · refine aw_iload_n (pc' := 61) eX7_shift_60 rfl rfl ?_
              refine aw_if_lt (pc' := 64) (tgt := 96) eX7_shift_61 rfl (by decide) (fun c_61 => ?_) (fun c_61 => ?_)
              · refine aw_bipush (pc' := 98) (v := -13) eX7_shift_96 rfl (by decide) ?_
                refine aw_ret (v := some (.int _)) eX7_shift_98 ⟨rfl, rfl⟩ (by omega) (by omega) rfl ?_
                have hx : i < 0 := by first | exact c_61 | exact Int32.not_le.mp c_61
                have eo : sShOk U (nI t) (nI o) i j n = false := by rw [sShOk, clt, clo]; simp [hx]
                exact ⟨by rw [sShift, if_pos ⟨c4, c11⟩, clt, clo, if_neg hs2, if_pos hse, if_neg (by rw [eo]; decide)], U.2.2 18, by rw [sShift, if_pos ⟨c4, c11⟩, clt, clo, if_neg hs2, if_pos hse, if_neg (by rw [eo]; decide)]; exact MAt.idL (j := 17) (MAt.idL (j := 18) hM fun _ _ => rfl) fun _ _ => rfl, Same.rf⟩
              · refine aw_iload (pc' := 66) eX7_shift_64 rfl rfl ?_
                refine aw_if_lt (pc' := 69) (tgt := 96) eX7_shift_66 rfl (by decide) (fun c_66 => ?_) (fun c_66 => ?_)
                · refine aw_bipush (pc' := 98) (v := -13) eX7_shift_96 rfl (by decide) ?_
                  refine aw_ret (v := some (.int _)) eX7_shift_98 ⟨rfl, rfl⟩ (by omega) (by omega) rfl ?_
                  have hx : j < 0 := by first | exact c_66 | exact Int32.not_le.mp c_66
                  have eo : sShOk U (nI t) (nI o) i j n = false := by rw [sShOk, clt, clo]; simp [hx]
                  exact ⟨by rw [sShift, if_pos ⟨c4, c11⟩, clt, clo, if_neg hs2, if_pos hse, if_neg (by rw [eo]; decide)], U.2.2 18, by rw [sShift, if_pos ⟨c4, c11⟩, clt, clo, if_neg hs2, if_pos hse, if_neg (by rw [eo]; decide)]; exact MAt.idL (j := 17) (MAt.idL (j := 18) hM fun _ _ => rfl) fun _ _ => rfl, Same.rf⟩
                · refine aw_iload (pc' := 71) eX7_shift_69 rfl rfl ?_
                  refine aw_aload_n (pc' := 72) eX7_shift_71 rfl rfl trivial ?_
                  refine aw_Mref (pc' := 75) (kf := 25) 16 hM eX7_shift_72 rfl (by decide) rfl q814 ?_
                  refine aw_iload_n (pc' := 76) eX7_shift_75 rfl rfl ?_
                  refine aw_MaldC (pc' := 77) 16 t hM eX7_shift_76 rfl (by decide) vt clt ?_
                  refine aw_iload_n (pc' := 78) eX7_shift_77 rfl rfl ?_
                  refine aw_isub (pc' := 79) eX7_shift_78 rfl ?_
                  refine aw_icmp_gt (pc' := 82) (tgt := 96) eX7_shift_79 rfl (by decide) (fun c_79 => ?_) (fun c_79 => ?_)
                  · refine aw_bipush (pc' := 98) (v := -13) eX7_shift_96 rfl (by decide) ?_
                    refine aw_ret (v := some (.int _)) eX7_shift_98 ⟨rfl, rfl⟩ (by omega) (by omega) rfl ?_
                    have hx : U.1 16 t - i < n := by first | exact c_79 | exact Int32.not_le.mp c_79
                    have eo : sShOk U (nI t) (nI o) i j n = false := by rw [sShOk, clt, clo]; simp [hx]
                    exact ⟨by rw [sShift, if_pos ⟨c4, c11⟩, clt, clo, if_neg hs2, if_pos hse, if_neg (by rw [eo]; decide)], U.2.2 18, by rw [sShift, if_pos ⟨c4, c11⟩, clt, clo, if_neg hs2, if_pos hse, if_neg (by rw [eo]; decide)]; exact MAt.idL (j := 17) (MAt.idL (j := 18) hM fun _ _ => rfl) fun _ _ => rfl, Same.rf⟩
                  · refine aw_iload (pc' := 84) eX7_shift_82 rfl rfl ?_
                    refine aw_aload_n (pc' := 85) eX7_shift_84 rfl rfl trivial ?_
                    refine aw_Mref (pc' := 88) (kf := 25) 16 hM eX7_shift_85 rfl (by decide) rfl q814 ?_
                    refine aw_iload_n (pc' := 89) eX7_shift_88 rfl rfl ?_
                    refine aw_MaldC (pc' := 90) 16 o hM eX7_shift_89 rfl (by decide) vo clo ?_
                    refine aw_iload (pc' := 92) eX7_shift_90 rfl rfl ?_
                    refine aw_isub (pc' := 93) eX7_shift_92 rfl ?_
                    refine aw_icmp_le (pc' := 96) (tgt := 99) eX7_shift_93 rfl (by decide) (fun c_93 => ?_) (fun c_93 => ?_)
                    · refine aw_iconst (pc' := 100) (v := 0) eX7_shift_99 rfl (by decide) ?_
                      refine aw_istore (pc' := 102) eX7_shift_100 rfl (by decide) ?_
                      dsimp only [zst, zst2, zcut]
                      have hn0 : ¬ n < 0 := by first | exact c_57 | exact Int32.not_lt.mpr c_57
                      have hi0 : ¬ i < 0 := by first | exact c_61 | exact Int32.not_lt.mpr c_61
                      have hj0 : ¬ j < 0 := by first | exact c_66 | exact Int32.not_lt.mpr c_66
                      have h79 : ¬ U.1 16 t - i < n := by first | exact c_79 | exact Int32.not_lt.mpr c_79
                      have h93 : ¬ U.1 16 o - j < n := by first | exact c_93 | exact Int32.not_lt.mpr c_93
                      obtain ⟨⟨q1, hq1, eq1⟩, -⟩ := hT t (by omega)
                      obtain ⟨⟨q2, hq2, eq2⟩, -⟩ := hT o (by omega)
                      have eo : sShOk U (nI t) (nI o) i j n = true := by rw [sShOk, clt, clo]; simp [hn0, hi0, hj0, h79, h93]
                      obtain ⟨b, c, rfl, rfl, hbc⟩ := sh_lt eq1 hq1 hi0 hn0 h79
                      obtain ⟨b2, c2, rfl, e2, hbc2⟩ := sh_lt eq2 hq2 hj0 hn0 h93
                      have ecc : c = c2 := by
                        have z := congrArg Int32.toInt e2
                        have hc : c < 2 ^ 31 := by omega
                        have hc2 : c2 < 2 ^ 31 := by omega
                        rw [nI_toInt hc, nI_toInt hc2] at z
                        omega
                      subst ecc
                      refine lp1_X7_shift (V := U) (t := t) (i := b) (n := c) (by omega) (by omega) (fun h9 y9 m9 s9 => ?_) c 0 _ _ (by omega) (by omega) rfl (MAt.idL (j := 18) hM fun q hq => (if_neg (show ¬ q < 0 by omega)).symm) Same.rf
                      refine aw_iconst (pc' := 137) (v := 0) eX7_shift_136 rfl (by decide) ?_
                      refine aw_istore (pc' := 139) eX7_shift_137 rfl (by decide) ?_
                      dsimp only [zst, zst2, zcut]
                      refine lp2_X7_shift (V := msL U 18 (fun q => if q < c then U.2.2 17 (60 * t + b + q) else U.2.2 18 q)) (o := o) (j := b2) (n := c) (by omega) (by omega) (fun h8 m8 s8 => ?_) c 0 _ _ (by omega) (by omega) rfl (MAt.idL (j := 17) m9 fun q hq => (if_neg (show ¬ (60 * o + b2 ≤ q ∧ q < 60 * o + b2 + 0) by omega)).symm) s9
                      refine ⟨by rw [sShift, if_pos ⟨c4, c11⟩, clt, clo, if_neg hs2, if_pos hse, if_pos eo], (fun q => if q < c then U.2.2 17 (60 * t + b + q) else U.2.2 18 q), ?_, s8⟩
                      rw [sShift, if_pos ⟨c4, c11⟩, clt, clo, if_neg hs2, if_pos hse, if_pos eo]
                      refine m8.gsL fun q hq => ?_
                      show (if 60 * o + b2 ≤ q ∧ q < 60 * o + b2 + c then (if q - (60 * o + b2) < c then U.2.2 17 (60 * t + b + (q - (60 * o + b2))) else U.2.2 18 (q - (60 * o + b2))) else U.2.2 17 q) = sShV U t o (nI b).toNatClampNeg (nI b2).toNatClampNeg (nI c).toNatClampNeg q
                      rw [nI_clamp (n := b) (by omega), nI_clamp (n := b2) (by omega), nI_clamp (n := c) (by omega), sShV]
                      by_cases e : 60 * o + b2 ≤ q ∧ q < 60 * o + b2 + c
                      · rw [if_pos e, if_pos e, if_pos (by omega)]
                      · rw [if_neg e, if_neg e]
                    · refine aw_bipush (pc' := 98) (v := -13) eX7_shift_96 rfl (by decide) ?_
                      refine aw_ret (v := some (.int _)) eX7_shift_98 ⟨rfl, rfl⟩ (by omega) (by omega) rfl ?_
                      have hx : U.1 16 o - j < n := by first | exact c_93 | exact Int32.not_le.mp c_93
                      have eo : sShOk U (nI t) (nI o) i j n = false := by rw [sShOk, clt, clo]; simp [hx]
                      exact ⟨by rw [sShift, if_pos ⟨c4, c11⟩, clt, clo, if_neg hs2, if_pos hse, if_neg (by rw [eo]; decide)], U.2.2 18, by rw [sShift, if_pos ⟨c4, c11⟩, clt, clo, if_neg hs2, if_pos hse, if_neg (by rw [eo]; decide)]; exact MAt.idL (j := 17) (MAt.idL (j := 18) hM fun _ _ => rfl) fun _ _ => rfl, Same.rf⟩
          · refine aw_bipush (pc' := 54) (v := -12) eX7_shift_52 rfl (by decide) ?_
            refine aw_ret (v := some (.int _)) eX7_shift_54 ⟨rfl, rfl⟩ (by omega) (by omega) rfl ?_
            exact ⟨by rw [sShift, if_pos ⟨c4, c11⟩, clt, clo, if_neg hs2, if_neg c_49], U.2.2 18, by rw [sShift, if_pos ⟨c4, c11⟩, clt, clo, if_neg hs2, if_neg c_49]; exact MAt.idL (j := 17) (MAt.idL (j := 18) hM fun _ _ => rfl) fun _ _ => rfl, Same.rf⟩
        · refine aw_bipush (pc' := 36) (v := -11) eX7_shift_34 rfl (by decide) ?_
          refine aw_ret (v := some (.int _)) eX7_shift_36 ⟨rfl, rfl⟩ (by omega) (by omega) rfl ?_
          exact ⟨by rw [sShift, if_pos ⟨c4, c11⟩, clt, clo, if_pos (Or.inr (by first | exact c_31 | exact Int32.not_le.mp c_31))], U.2.2 18, by rw [sShift, if_pos ⟨c4, c11⟩, clt, clo, if_pos (Or.inr (by first | exact c_31 | exact Int32.not_le.mp c_31))]; exact MAt.idL (j := 17) (MAt.idL (j := 18) hM fun _ _ => rfl) fun _ _ => rfl, Same.rf⟩
    · refine aw_iconst (pc' := 15) (v := -1) eX7_shift_14 rfl (by decide) ?_
      refine aw_ret (v := some (.int _)) eX7_shift_15 ⟨rfl, rfl⟩ (by omega) (by omega) rfl ?_
      try simp only [zb_eq0, Bool.not_eq_false, Bool.not_eq_true, decide_eq_true_eq, decide_eq_false_iff_not, Decidable.not_not] at c_11
      exact ⟨by rw [sShift, if_neg (by rw [c_11]; simp)], U.2.2 18, by rw [sShift, if_neg (by rw [c_11]; simp)]; exact MAt.idL (j := 17) (MAt.idL (j := 18) hM fun _ _ => rfl) fun _ _ => rfl, Same.rf⟩
end M24
