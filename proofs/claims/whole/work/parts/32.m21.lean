/-! the model: weights, can, ends, fractions -/
section M21
variable {l : Launch} {G : GT} {u : Nat} {U U1 : MS} {d n m t : Nat} {g : Nat → Int32} {h : Hp} {Q : Option Value → Hp → Prop}
def sWeights (F : FT) (g : Nat → Int32) (m a t : Nat) (tl : Int32) : Int32 := if bIn tl 0 (nI m - 1) = true then sFit1 F g m a t (10 * tl.toNatClampNeg + 2) 21 else -1
def sCan1 (bits : Int32) : Nat → Int32 × Int32
  | 0 => (0, -5)
  | k + 1 => ((sCan1 bits k).1 + (bits >>> (nI (9 - k) &&& 31) &&& 1), if bits >>> (nI (9 - k) &&& 31) &&& 1 = 1 then nI (9 - k) else (sCan1 bits k).2)
def sCan (F : FT) (g : Nat → Int32) (m a t : Nat) (tl w : Int32) : Int32 := if bIn tl 0 (nI m - 1) = true ∧ bIn w 0 1 = true then if w = 0 then (sCan1 (sFit1 F g m a t (10 * tl.toNatClampNeg + 1) 10) 10).1 else (sCan1 (sFit1 F g m a t (10 * tl.toNatClampNeg + 1) 10) 10).2 else -1

abbrev mX7_weights : MT := (RX7, cX7_weights, 2, (some .int), false)
theorem eX7_weights_0 : decode mX7_weights.2.1 0 = .ok (.aload_n 0, 1) := by decide +kernel
theorem eX7_weights_1 : decode mX7_weights.2.1 1 = .ok (.iload_n 1, 1) := by decide +kernel
theorem eX7_weights_2 : decode mX7_weights.2.1 2 = .ok (.invokevirtual 88, 3) := by decide +kernel
theorem eX7_weights_5 : decode mX7_weights.2.1 5 = .ok (.ifCond .eq 14, 3) := by decide +kernel
theorem eX7_weights_8 : decode mX7_weights.2.1 8 = .ok (.aload_n 0, 1) := by decide +kernel
theorem eX7_weights_9 : decode mX7_weights.2.1 9 = .ok (.iload_n 1, 1) := by decide +kernel
theorem eX7_weights_10 : decode mX7_weights.2.1 10 = .ok (.iconst 2, 1) := by decide +kernel
theorem eX7_weights_11 : decode mX7_weights.2.1 11 = .ok (.bipush 20, 2) := by decide +kernel
theorem eX7_weights_13 : decode mX7_weights.2.1 13 = .ok (.invokevirtual 221, 3) := by decide +kernel
theorem eX7_weights_16 : decode mX7_weights.2.1 16 = .ok (.goto 4, 3) := by decide +kernel
theorem eX7_weights_19 : decode mX7_weights.2.1 19 = .ok (.iconst (-1), 1) := by decide +kernel
theorem eX7_weights_20 : decode mX7_weights.2.1 20 = .ok (.ireturn, 1) := by decide +kernel
theorem c_X7_weights (hk : MK n g U U1) (hM : MAt h u U1) (hz : mZ U) (hg : gOk g m t) (hn : 1 ≤ n) {a : Nat} (hgS : gS g a) (ht6 : t ≤ 1000000000) (tl : Int32) (hd : 28 ≤ d) : Ct l G mX7_weights yX7_weights d 0 0 [.ref u, .int tl] h (fun r h' => r = some (.int (sWeights (mRd U) g m a t tl)) ∧ ∃ U', MAt h' u U' ∧ MK n g U U' ∧ Same u 19 h h') := by
  refine ct_of (lv := [some (.ref u), some (.int tl)]) (by decide +kernel) rfl (fun z => by cases z) (fun _ => rfl) (fun _ => Nat.le_of_ble_eq_true rfl) ?_
  have hgg := hg
  obtain ⟨hm, hm6, ht, ht2, hgq⟩ := hgg
  refine aw_aload_n (pc' := 1) eX7_weights_0 rfl rfl trivial ?_
  refine aw_iload_n (pc' := 2) eX7_weights_1 rfl rfl ?_
  refine aw_callv (pc' := 5) (nn := 1) (c_X7_isOne (d := d - 1) hM _ (by omega)) eX7_weights_2 rfl ⟨q897, q900, q62⟩ q899 q21 ⟨rfl, by decide +kernel, by decide +kernel, by decide +kernel⟩ rfl (by rw [hM.2.1]; exact ⟨rfl, rfl⟩) rfl ⟨by omega, by decide⟩ ⟨by omega, by omega⟩ rfl (Nat.le_of_ble_eq_true rfl) (fun v1 h2 hq3 => ?_)
  obtain ⟨rfl, rfl⟩ := hq3
  dsimp only [Option.toList, List.cons_append, List.nil_append]
  refine aw_if_eq (pc' := 8) (tgt := 19) eX7_weights_5 rfl (by decide) (fun c_5 => ?_) (fun c_5 => ?_)
  · refine aw_iconst (pc' := 20) (v := -1) eX7_weights_19 rfl (by decide) ?_
    refine aw_ret (v := some (.int _)) eX7_weights_20 ⟨rfl, rfl⟩ (by omega) (by omega) rfl ?_
    simp only [zb_eq0, Bool.not_eq_false, Bool.not_eq_true, decide_eq_true_eq, decide_eq_false_iff_not, Decidable.not_not, hk.1, hm] at c_5
    exact ⟨by rw [sWeights, if_neg (by rw [c_5]; decide)], _, hM, hk, Same.rf⟩
  · simp only [zb_eq0, Bool.not_eq_false, Bool.not_eq_true, decide_eq_true_eq, decide_eq_false_iff_not, Decidable.not_not, hk.1, hm] at c_5
    have c9 := c_5
    obtain ⟨i, hi, rfl⟩ := (bIn_one hm6).mp c_5
    have cli : (nI i).toNatClampNeg = i := nI_clamp (by omega)
    refine aw_aload_n (pc' := 9) eX7_weights_8 rfl rfl trivial ?_
    refine aw_iload_n (pc' := 10) eX7_weights_9 rfl rfl ?_
    refine aw_iconst (pc' := 11) (v := 2) eX7_weights_10 rfl (by decide) ?_
    refine aw_bipush (pc' := 13) (v := 20) eX7_weights_11 rfl (by decide) ?_
    refine aw_callv (pc' := 16) (nn := 3) (c_X7_fits (d := d - 1) hk hM hz hg hn hgS (i := i) (c := 2) (w := 20) (by omega) (by omega) (by omega) ht6 (by omega)) eX7_weights_13 rfl ⟨q1070, q1073, q62⟩ q1072 q49 ⟨rfl, by decide +kernel, by decide +kernel, by decide +kernel⟩ rfl (by rw [hM.2.1]; exact ⟨rfl, rfl⟩) rfl ⟨by omega, by decide⟩ ⟨by omega, by omega⟩ rfl (Nat.le_of_ble_eq_true rfl) (fun v8 h9 hq10 => ?_)
    obtain ⟨rfl, V6, hM4, k7, hs5⟩ := hq10
    dsimp only [Option.toList, List.cons_append, List.nil_append]
    refine aw_goto eX7_weights_16 (by decide) (tgt := 20) ?_
    refine aw_ret (v := some (.int _)) eX7_weights_20 ⟨rfl, rfl⟩ (by omega) (by omega) rfl ?_
    exact ⟨by rw [sWeights, if_pos c9, cli], _, hM4, k7, hs5⟩
abbrev mX7_can : MT := (RX7, cX7_can, 7, (some .int), false)
theorem eX7_can_0 : decode mX7_can.2.1 0 = .ok (.aload_n 0, 1) := by decide +kernel
theorem eX7_can_1 : decode mX7_can.2.1 1 = .ok (.iload_n 1, 1) := by decide +kernel
theorem eX7_can_2 : decode mX7_can.2.1 2 = .ok (.invokevirtual 88, 3) := by decide +kernel
theorem eX7_can_5 : decode mX7_can.2.1 5 = .ok (.ifCond .eq 12, 3) := by decide +kernel
theorem eX7_can_8 : decode mX7_can.2.1 8 = .ok (.iload_n 2, 1) := by decide +kernel
theorem eX7_can_9 : decode mX7_can.2.1 9 = .ok (.iconst 0, 1) := by decide +kernel
theorem eX7_can_10 : decode mX7_can.2.1 10 = .ok (.iconst 1, 1) := by decide +kernel
theorem eX7_can_11 : decode mX7_can.2.1 11 = .ok (.invokestatic 80, 3) := by decide +kernel
theorem eX7_can_14 : decode mX7_can.2.1 14 = .ok (.ifCond .ne 5, 3) := by decide +kernel
theorem eX7_can_17 : decode mX7_can.2.1 17 = .ok (.iconst (-1), 1) := by decide +kernel
theorem eX7_can_18 : decode mX7_can.2.1 18 = .ok (.ireturn, 1) := by decide +kernel
theorem eX7_can_19 : decode mX7_can.2.1 19 = .ok (.aload_n 0, 1) := by decide +kernel
theorem eX7_can_20 : decode mX7_can.2.1 20 = .ok (.iload_n 1, 1) := by decide +kernel
theorem eX7_can_21 : decode mX7_can.2.1 21 = .ok (.iconst 1, 1) := by decide +kernel
theorem eX7_can_22 : decode mX7_can.2.1 22 = .ok (.bipush 9, 2) := by decide +kernel
theorem eX7_can_24 : decode mX7_can.2.1 24 = .ok (.invokevirtual 221, 3) := by decide +kernel
theorem eX7_can_27 : decode mX7_can.2.1 27 = .ok (.istore_n 3, 1) := by decide +kernel
theorem eX7_can_28 : decode mX7_can.2.1 28 = .ok (.iconst 0, 1) := by decide +kernel
theorem eX7_can_29 : decode mX7_can.2.1 29 = .ok (.istore 4, 2) := by decide +kernel
theorem eX7_can_31 : decode mX7_can.2.1 31 = .ok (.bipush (-5), 2) := by decide +kernel
theorem eX7_can_33 : decode mX7_can.2.1 33 = .ok (.istore 5, 2) := by decide +kernel
theorem eX7_can_35 : decode mX7_can.2.1 35 = .ok (.bipush 9, 2) := by decide +kernel
theorem eX7_can_37 : decode mX7_can.2.1 37 = .ok (.istore 6, 2) := by decide +kernel
theorem eX7_can_39 : decode mX7_can.2.1 39 = .ok (.iload 6, 2) := by decide +kernel
theorem eX7_can_41 : decode mX7_can.2.1 41 = .ok (.ifCond .lt 39, 3) := by decide +kernel
theorem eX7_can_44 : decode mX7_can.2.1 44 = .ok (.iload 4, 2) := by decide +kernel
theorem eX7_can_46 : decode mX7_can.2.1 46 = .ok (.iload_n 3, 1) := by decide +kernel
theorem eX7_can_47 : decode mX7_can.2.1 47 = .ok (.iload 6, 2) := by decide +kernel
theorem eX7_can_49 : decode mX7_can.2.1 49 = .ok (.ishr, 1) := by decide +kernel
theorem eX7_can_50 : decode mX7_can.2.1 50 = .ok (.iconst 1, 1) := by decide +kernel
theorem eX7_can_51 : decode mX7_can.2.1 51 = .ok (.iand, 1) := by decide +kernel
theorem eX7_can_52 : decode mX7_can.2.1 52 = .ok (.iadd, 1) := by decide +kernel
theorem eX7_can_53 : decode mX7_can.2.1 53 = .ok (.istore 4, 2) := by decide +kernel
theorem eX7_can_55 : decode mX7_can.2.1 55 = .ok (.iload_n 3, 1) := by decide +kernel
theorem eX7_can_56 : decode mX7_can.2.1 56 = .ok (.iload 6, 2) := by decide +kernel
theorem eX7_can_58 : decode mX7_can.2.1 58 = .ok (.ishr, 1) := by decide +kernel
theorem eX7_can_59 : decode mX7_can.2.1 59 = .ok (.iconst 1, 1) := by decide +kernel
theorem eX7_can_60 : decode mX7_can.2.1 60 = .ok (.iand, 1) := by decide +kernel
theorem eX7_can_61 : decode mX7_can.2.1 61 = .ok (.iconst 1, 1) := by decide +kernel
theorem eX7_can_62 : decode mX7_can.2.1 62 = .ok (.if_icmp .ne 8, 3) := by decide +kernel
theorem eX7_can_65 : decode mX7_can.2.1 65 = .ok (.iload 6, 2) := by decide +kernel
theorem eX7_can_67 : decode mX7_can.2.1 67 = .ok (.goto 5, 3) := by decide +kernel
theorem eX7_can_70 : decode mX7_can.2.1 70 = .ok (.iload 5, 2) := by decide +kernel
theorem eX7_can_72 : decode mX7_can.2.1 72 = .ok (.istore 5, 2) := by decide +kernel
theorem eX7_can_74 : decode mX7_can.2.1 74 = .ok (.iinc 6 (-1), 3) := by decide +kernel
theorem eX7_can_77 : decode mX7_can.2.1 77 = .ok (.goto (-38), 3) := by decide +kernel
theorem eX7_can_80 : decode mX7_can.2.1 80 = .ok (.iload_n 2, 1) := by decide +kernel
theorem eX7_can_81 : decode mX7_can.2.1 81 = .ok (.ifCond .ne 8, 3) := by decide +kernel
theorem eX7_can_84 : decode mX7_can.2.1 84 = .ok (.iload 4, 2) := by decide +kernel
theorem eX7_can_86 : decode mX7_can.2.1 86 = .ok (.goto 5, 3) := by decide +kernel
theorem eX7_can_89 : decode mX7_can.2.1 89 = .ok (.iload 5, 2) := by decide +kernel
theorem eX7_can_91 : decode mX7_can.2.1 91 = .ok (.ireturn, 1) := by decide +kernel
theorem nI_dec {v : Nat} (h : 1 ≤ v) : nI v + Int32.ofInt (-1) = nI (v - 1) := by
  obtain ⟨k, rfl⟩ : ∃ k, v = k + 1 := ⟨v - 1, by omega⟩
  show nI (k + 1) + (-1) = nI k
  have := nI_m1 (m := k)
  rw [← this, Int32.sub_eq_add_neg]
theorem lp_X7_can {bits : Int32} {o1 o2 : Option Value} (hQ : ∀ y', AW l G mX7_can d 0 0 Q 0 0 h [some (.ref u), o1, o2, some (.int bits), some (.int (sCan1 bits 10).1), some (.int (sCan1 bits 10).2), some (.int y')] [] 80) : ∀ (j k v : Nat) (y b e : Int32), v = j → v + k = 9 → y = nI v → b = (sCan1 bits k).1 → e = (sCan1 bits k).2 → AW l G mX7_can d 0 0 Q 0 0 h [some (.ref u), o1, o2, some (.int bits), some (.int b), some (.int e), some (.int y)] [] 39 := by
  intro j
  induction j using Nat.strongRecOn with
  | _ j ih' =>
    intro k v y b e hj hk hy hb he
    have ih : ∀ (k' v' : Nat) (y b e : Int32), v' < v → v' + k' = 9 → y = nI v' → b = (sCan1 bits k').1 → e = (sCan1 bits k').2 → AW l G mX7_can d 0 0 Q 0 0 h [some (.ref u), o1, o2, some (.int bits), some (.int b), some (.int e), some (.int y)] [] 39 := fun k' v' y b e hv a1 a2 a3 a4 => ih' v' (by omega) k' v' y b e rfl a1 a2 a3 a4
    subst hy hb he
    refine aw_iload (pc' := 41) eX7_can_39 rfl rfl ?_
    refine aw_if_lt (pc' := 44) (tgt := 80) eX7_can_41 rfl (by decide) (fun c_41 => ?_) (fun c_41 => ?_)
    · exact absurd c_41 (by
        intro z
        have y := Int32.lt_iff_toInt_lt.mp z
        rw [nI_toInt (by omega), show (0 : Int32).toInt = 0 from by decide] at y
        omega)
    · refine aw_iload (pc' := 46) eX7_can_44 rfl rfl ?_
      refine aw_iload_n (pc' := 47) eX7_can_46 rfl rfl ?_
      refine aw_iload (pc' := 49) eX7_can_47 rfl rfl ?_
      refine aw_ishr (pc' := 50) eX7_can_49 rfl ?_
      refine aw_iconst (pc' := 51) (v := 1) eX7_can_50 rfl (by decide) ?_
      refine aw_iand (pc' := 52) eX7_can_51 rfl ?_
      refine aw_iadd (pc' := 53) eX7_can_52 rfl ?_
      refine aw_istore (pc' := 55) eX7_can_53 rfl (by decide) ?_
      dsimp only [zst, zst2, zcut]
      refine aw_iload_n (pc' := 56) eX7_can_55 rfl rfl ?_
      refine aw_iload (pc' := 58) eX7_can_56 rfl rfl ?_
      refine aw_ishr (pc' := 59) eX7_can_58 rfl ?_
      refine aw_iconst (pc' := 60) (v := 1) eX7_can_59 rfl (by decide) ?_
      refine aw_iand (pc' := 61) eX7_can_60 rfl ?_
      refine aw_iconst (pc' := 62) (v := 1) eX7_can_61 rfl (by decide) ?_
      refine aw_icmp_ne (pc' := 65) (tgt := 70) eX7_can_62 rfl (by decide) (fun c_62 => ?_) (fun c_62 => ?_)
      · refine aw_iload (pc' := 72) eX7_can_70 rfl rfl ?_
        refine aw_istore (pc' := 74) eX7_can_72 rfl (by decide) ?_
        dsimp only [zst, zst2, zcut]
        refine aw_iinc (pc' := 77) eX7_can_74 rfl rfl rfl (by decide) ?_
        dsimp only [zst, zst2, zcut]
        refine aw_goto eX7_can_77 (by decide) (tgt := 39) ?_
        rcases Nat.eq_zero_or_pos v with hv0 | hv0
        · subst hv0
          obtain rfl : k = 9 := by omega
          refine aw_iload (pc' := 41) eX7_can_39 rfl rfl ?_
          refine aw_if_lt (pc' := 44) (tgt := 80) eX7_can_41 rfl (by decide) (fun c_41 => ?_) (fun c_41 => ?_)
          · have z := hQ (nI 0 + Int32.ofInt (-1))
            rw [show sCan1 bits 10 = ((sCan1 bits 9).1 + (bits >>> (nI 0 &&& 31) &&& 1), if bits >>> (nI 0 &&& 31) &&& 1 = 1 then nI 0 else (sCan1 bits 9).2) from rfl] at z
            dsimp only at z
            rw [if_neg c_62] at z
            exact z
          · exact absurd (show nI 0 + Int32.ofInt (-1) < 0 by decide) c_41
        · refine ih (k + 1) (v - 1) _ _ _ (by omega) (by omega) (nI_dec hv0) ?_ ?_
          · rw [sCan1, show 9 - k = v by omega]
          · rw [sCan1, show 9 - k = v by omega]
            exact (if_neg c_62).symm
      · refine aw_iload (pc' := 67) eX7_can_65 rfl rfl ?_
        refine aw_goto eX7_can_67 (by decide) (tgt := 72) ?_
        refine aw_istore (pc' := 74) eX7_can_72 rfl (by decide) ?_
        dsimp only [zst, zst2, zcut]
        refine aw_iinc (pc' := 77) eX7_can_74 rfl rfl rfl (by decide) ?_
        dsimp only [zst, zst2, zcut]
        refine aw_goto eX7_can_77 (by decide) (tgt := 39) ?_
        rcases Nat.eq_zero_or_pos v with hv0 | hv0
        · subst hv0
          obtain rfl : k = 9 := by omega
          refine aw_iload (pc' := 41) eX7_can_39 rfl rfl ?_
          refine aw_if_lt (pc' := 44) (tgt := 80) eX7_can_41 rfl (by decide) (fun c_41 => ?_) (fun c_41 => ?_)
          · have z := hQ (nI 0 + Int32.ofInt (-1))
            rw [show sCan1 bits 10 = ((sCan1 bits 9).1 + (bits >>> (nI 0 &&& 31) &&& 1), if bits >>> (nI 0 &&& 31) &&& 1 = 1 then nI 0 else (sCan1 bits 9).2) from rfl] at z
            dsimp only at z
            rw [if_pos (by first | exact c_62 | exact Decidable.not_not.mp c_62)] at z
            exact z
          · exact absurd (show nI 0 + Int32.ofInt (-1) < 0 by decide) c_41
        · refine ih (k + 1) (v - 1) _ _ _ (by omega) (by omega) (nI_dec hv0) ?_ ?_
          · rw [sCan1, show 9 - k = v by omega]
          · rw [sCan1, show 9 - k = v by omega]
            exact (if_pos (by first | exact c_62 | exact Decidable.not_not.mp c_62)).symm
theorem c_X7_can (hk : MK n g U U1) (hM : MAt h u U1) (hz : mZ U) (hg : gOk g m t) (hn : 1 ≤ n) {a : Nat} (hgS : gS g a) (ht6 : t ≤ 1000000000) (tl w : Int32) (hd : 28 ≤ d) : Ct l G mX7_can yX7_can d 0 0 [.ref u, .int tl, .int w] h (fun r h' => r = some (.int (sCan (mRd U) g m a t tl w)) ∧ ∃ U', MAt h' u U' ∧ MK n g U U' ∧ Same u 19 h h') := by
  refine ct_of (lv := [some (.ref u), some (.int tl), some (.int w), none, none, none, none]) (by decide +kernel) rfl (fun z => by cases z) (fun _ => rfl) (fun _ => Nat.le_of_ble_eq_true rfl) ?_
  have hgg := hg
  obtain ⟨hm, hm6, ht, ht2, hgq⟩ := hgg
  refine aw_aload_n (pc' := 1) eX7_can_0 rfl rfl trivial ?_
  refine aw_iload_n (pc' := 2) eX7_can_1 rfl rfl ?_
  refine aw_callv (pc' := 5) (nn := 1) (c_X7_isOne (d := d - 1) hM _ (by omega)) eX7_can_2 rfl ⟨q897, q900, q62⟩ q899 q21 ⟨rfl, by decide +kernel, by decide +kernel, by decide +kernel⟩ rfl (by rw [hM.2.1]; exact ⟨rfl, rfl⟩) rfl ⟨by omega, by decide⟩ ⟨by omega, by omega⟩ rfl (Nat.le_of_ble_eq_true rfl) (fun v1 h2 hq3 => ?_)
  obtain ⟨rfl, rfl⟩ := hq3
  dsimp only [Option.toList, List.cons_append, List.nil_append]
  refine aw_if_eq (pc' := 8) (tgt := 17) eX7_can_5 rfl (by decide) (fun c_5 => ?_) (fun c_5 => ?_)
  · refine aw_iconst (pc' := 18) (v := -1) eX7_can_17 rfl (by decide) ?_
    refine aw_ret (v := some (.int _)) eX7_can_18 ⟨rfl, rfl⟩ (by omega) (by omega) rfl ?_
    simp only [zb_eq0, Bool.not_eq_false, Bool.not_eq_true, decide_eq_true_eq, decide_eq_false_iff_not, Decidable.not_not, hk.1, hm] at c_5
    exact ⟨by rw [sCan, if_neg (by rw [c_5]; simp)], _, hM, hk, Same.rf⟩
  · simp only [zb_eq0, Bool.not_eq_false, Bool.not_eq_true, decide_eq_true_eq, decide_eq_false_iff_not, Decidable.not_not, hk.1, hm] at c_5
    have c9 := c_5
    obtain ⟨i, hi, rfl⟩ := (bIn_one hm6).mp c_5
    have cli : (nI i).toNatClampNeg = i := nI_clamp (by omega)
    refine aw_iload_n (pc' := 9) eX7_can_8 rfl rfl ?_
    refine aw_iconst (pc' := 10) (v := 0) eX7_can_9 rfl (by decide) ?_
    refine aw_iconst (pc' := 11) (v := 1) eX7_can_10 rfl (by decide) ?_
    refine aw_calls (pc' := 14) (nn := 3) (c_X7_isIn (d := d - 1) _ _ _ (by omega)) eX7_can_11 rfl ⟨q890, q892, q62⟩ q891 ⟨by decide +kernel, by decide +kernel, by decide +kernel⟩ rfl ⟨by omega, by decide⟩ ⟨by omega, by omega⟩ rfl (Nat.le_of_ble_eq_true rfl) (fun v4 h5 hq6 => ?_)
    obtain ⟨rfl, rfl⟩ := hq6
    dsimp only [Option.toList, List.cons_append, List.nil_append]
    refine aw_if_ne (pc' := 17) (tgt := 19) eX7_can_14 rfl (by decide) (fun c_14 => ?_) (fun c_14 => ?_)
    · simp only [zb_eq0, Bool.not_eq_false, Bool.not_eq_true, decide_eq_true_eq, decide_eq_false_iff_not, Decidable.not_not] at c_14
      refine aw_aload_n (pc' := 20) eX7_can_19 rfl rfl trivial ?_
      refine aw_iload_n (pc' := 21) eX7_can_20 rfl rfl ?_
      refine aw_iconst (pc' := 22) (v := 1) eX7_can_21 rfl (by decide) ?_
      refine aw_bipush (pc' := 24) (v := 9) eX7_can_22 rfl (by decide) ?_
      refine aw_callv (pc' := 27) (nn := 3) (c_X7_fits (d := d - 1) hk hM hz hg hn hgS (i := i) (c := 1) (w := 9) (by omega) (by omega) (by omega) ht6 (by omega)) eX7_can_24 rfl ⟨q1070, q1073, q62⟩ q1072 q49 ⟨rfl, by decide +kernel, by decide +kernel, by decide +kernel⟩ rfl (by rw [hM.2.1]; exact ⟨rfl, rfl⟩) rfl ⟨by omega, by decide⟩ ⟨by omega, by omega⟩ rfl (Nat.le_of_ble_eq_true rfl) (fun v11 h12 hq13 => ?_)
      obtain ⟨rfl, V9, hM7, k10, hs8⟩ := hq13
      dsimp only [Option.toList, List.cons_append, List.nil_append]
      refine aw_istore_n (pc' := 28) eX7_can_27 rfl (by decide) ?_
      dsimp only [zst, zst2, zcut]
      refine aw_iconst (pc' := 29) (v := 0) eX7_can_28 rfl (by decide) ?_
      refine aw_istore (pc' := 31) eX7_can_29 rfl (by decide) ?_
      dsimp only [zst, zst2, zcut]
      refine aw_bipush (pc' := 33) (v := -5) eX7_can_31 rfl (by decide) ?_
      refine aw_istore (pc' := 35) eX7_can_33 rfl (by decide) ?_
      dsimp only [zst, zst2, zcut]
      refine aw_bipush (pc' := 37) (v := 9) eX7_can_35 rfl (by decide) ?_
      refine aw_istore (pc' := 39) eX7_can_37 rfl (by decide) ?_
      dsimp only [zst, zst2, zcut]
      refine lp_X7_can (fun y' => ?_) 9 0 9 _ _ _ rfl rfl rfl rfl rfl
      refine aw_iload_n (pc' := 81) eX7_can_80 rfl rfl ?_
      refine aw_if_ne (pc' := 84) (tgt := 89) eX7_can_81 rfl (by decide) (fun c_81 => ?_) (fun c_81 => ?_)
      · refine aw_iload (pc' := 91) eX7_can_89 rfl rfl ?_
        refine aw_ret (v := some (.int _)) eX7_can_91 ⟨rfl, rfl⟩ (by omega) (by omega) rfl ?_
        exact ⟨by rw [sCan, if_pos ⟨c9, c_14⟩, cli]; exact congrArg (fun v => some (Value.int v)) (if_neg c_81).symm, _, hM7, k10, hs8⟩
      · refine aw_iload (pc' := 86) eX7_can_84 rfl rfl ?_
        refine aw_goto eX7_can_86 (by decide) (tgt := 91) ?_
        refine aw_ret (v := some (.int _)) eX7_can_91 ⟨rfl, rfl⟩ (by omega) (by omega) rfl ?_
        exact ⟨by rw [sCan, if_pos ⟨c9, c_14⟩, cli]; exact congrArg (fun v => some (Value.int v)) (if_pos (by first | exact c_81 | exact Decidable.not_not.mp c_81)).symm, _, hM7, k10, hs8⟩
    · refine aw_iconst (pc' := 18) (v := -1) eX7_can_17 rfl (by decide) ?_
      refine aw_ret (v := some (.int _)) eX7_can_18 ⟨rfl, rfl⟩ (by omega) (by omega) rfl ?_
      simp only [zb_eq0, Bool.not_eq_false, Bool.not_eq_true, decide_eq_true_eq, decide_eq_false_iff_not, Decidable.not_not] at c_14
      exact ⟨by rw [sCan, if_neg (by rw [c_14]; simp)], _, hM, hk, Same.rf⟩
def sPl1 (F : FT) (m t : Nat) (g : Nat → Int32) (w x : Int32) : (Nat → Int32) × Nat := if w = 0 then (sDay F m t g, t + 1) else if w = 1 then (sSays g x.toNatClampNeg, t) else if w = 2 then (upd (upd g (10 * x.toNatClampNeg + 3) 0) (10 * x.toNatClampNeg + 4) 0, t) else (upd g 62 x, t)
def sPl (F : FT) (m : Nat) : Nat → Nat → Nat → (Nat → Int32) → (Nat → Int32)
  | 0, _, _, g => g
  | k + 1, r, t, g => sPl F m k (r + 1) (sPl1 F m t g (g (86 + 2 * r)) (g (87 + 2 * r))).2 (sPl1 F m t g (g (86 + 2 * r)) (g (87 + 2 * r))).1
/-- plans: a rows -/
def gP (g : Nat → Int32) (a : Nat) : Prop := g 85 = nI a ∧ a ≤ 10 ∧ ∀ r, r < a → g (86 + 2 * r) = 1 ∨ g (86 + 2 * r) = 2 → ∃ b, b < 6 ∧ g (87 + 2 * r) = nI b
theorem gP_of {g g' : Nat → Int32} {a : Nat} (h : gP g a) (he : ∀ j, 85 ≤ j → j < 123 → g' j = g j) : gP g' a :=
  ⟨(he 85 (by omega) (by omega)).trans h.1, h.2.1, fun r hr hw => by
    have := h.2.1
    rw [he (86 + 2 * r) (by omega) (by omega)] at hw
    obtain ⟨b, hb, e⟩ := h.2.2 r hr hw
    exact ⟨b, hb, (he (87 + 2 * r) (by omega) (by omega)).trans e⟩⟩
def sEnds (F : FT) (g : Nat → Int32) (m a t : Nat) (w : Int32) : Int32 := if bIn w 0 1 = true then if w = 0 then sCnt (sPl F m a 0 t g) 4 m else sWhich (sPl F m a 0 t g) 1 m else -1
theorem sPl1_ok {F : FT} {g : Nat → Int32} {w x : Int32} (hg : gOk g m t) (ht : t < 1073741824) (hx : w = 1 ∨ w = 2 → ∃ b, b < 6 ∧ x = nI b) : gOk (sPl1 F m t g w x).1 m (sPl1 F m t g w x).2 ∧ (sPl1 F m t g w x).2 ≤ t + 1 ∧ ∀ j, 85 ≤ j → (sPl1 F m t g w x).1 j = g j := by
  unfold sPl1
  split
  · exact ⟨sDay_ok hg ht, Nat.le_refl _, fun j hj => sDay_hi hg.2.1 (by omega) (by omega) (by omega)⟩
  · split
    · rename_i z
      obtain ⟨b, hb, rfl⟩ := hx (Or.inl z)
      rw [nI_clamp (by omega)]
      exact ⟨sSays_ok hb hg, Nat.le_succ _, fun j hj => sSays_hi (by omega) hb⟩
    · split
      · rename_i z
        obtain ⟨b, hb, rfl⟩ := hx (Or.inr z)
        rw [nI_clamp (by omega)]
        exact ⟨up_ok (by omega) (up_ok (by omega) hg), Nat.le_succ _, fun j hj => by show upd (upd g (10 * b + 3) 0) (10 * b + 4) 0 j = g j; rw [upd_ne (by omega), upd_ne (by omega)]⟩
      · exact ⟨u62_ok hg, Nat.le_succ _, fun j hj => upd_ne (by omega)⟩
abbrev mX7_ends : MT := (RX7, cX7_ends, 5, (some .int), false)
theorem eX7_ends_0 : decode mX7_ends.2.1 0 = .ok (.iload_n 1, 1) := by decide +kernel
theorem eX7_ends_1 : decode mX7_ends.2.1 1 = .ok (.iconst 0, 1) := by decide +kernel
theorem eX7_ends_2 : decode mX7_ends.2.1 2 = .ok (.iconst 1, 1) := by decide +kernel
theorem eX7_ends_3 : decode mX7_ends.2.1 3 = .ok (.invokestatic 80, 3) := by decide +kernel
theorem eX7_ends_6 : decode mX7_ends.2.1 6 = .ok (.ifCond .ne 5, 3) := by decide +kernel
theorem eX7_ends_9 : decode mX7_ends.2.1 9 = .ok (.iconst (-1), 1) := by decide +kernel
theorem eX7_ends_10 : decode mX7_ends.2.1 10 = .ok (.ireturn, 1) := by decide +kernel
theorem eX7_ends_11 : decode mX7_ends.2.1 11 = .ok (.aload_n 0, 1) := by decide +kernel
theorem eX7_ends_12 : decode mX7_ends.2.1 12 = .ok (.getfield 15, 3) := by decide +kernel
theorem eX7_ends_15 : decode mX7_ends.2.1 15 = .ok (.aload_n 0, 1) := by decide +kernel
theorem eX7_ends_16 : decode mX7_ends.2.1 16 = .ok (.getfield 19, 3) := by decide +kernel
theorem eX7_ends_19 : decode mX7_ends.2.1 19 = .ok (.invokestatic 76, 3) := by decide +kernel
theorem eX7_ends_22 : decode mX7_ends.2.1 22 = .ok (.iconst 0, 1) := by decide +kernel
theorem eX7_ends_23 : decode mX7_ends.2.1 23 = .ok (.istore_n 2, 1) := by decide +kernel
theorem eX7_ends_24 : decode mX7_ends.2.1 24 = .ok (.iload_n 2, 1) := by decide +kernel
theorem eX7_ends_25 : decode mX7_ends.2.1 25 = .ok (.aload_n 0, 1) := by decide +kernel
theorem eX7_ends_26 : decode mX7_ends.2.1 26 = .ok (.getfield 15, 3) := by decide +kernel
theorem eX7_ends_29 : decode mX7_ends.2.1 29 = .ok (.bipush 85, 2) := by decide +kernel
theorem eX7_ends_31 : decode mX7_ends.2.1 31 = .ok (.iaload, 1) := by decide +kernel
theorem eX7_ends_32 : decode mX7_ends.2.1 32 = .ok (.if_icmp .ge 94, 3) := by decide +kernel
theorem eX7_ends_35 : decode mX7_ends.2.1 35 = .ok (.aload_n 0, 1) := by decide +kernel
theorem eX7_ends_36 : decode mX7_ends.2.1 36 = .ok (.getfield 15, 3) := by decide +kernel
theorem eX7_ends_39 : decode mX7_ends.2.1 39 = .ok (.bipush 86, 2) := by decide +kernel
theorem eX7_ends_41 : decode mX7_ends.2.1 41 = .ok (.iconst 2, 1) := by decide +kernel
theorem eX7_ends_42 : decode mX7_ends.2.1 42 = .ok (.iload_n 2, 1) := by decide +kernel
theorem eX7_ends_43 : decode mX7_ends.2.1 43 = .ok (.imul, 1) := by decide +kernel
theorem eX7_ends_44 : decode mX7_ends.2.1 44 = .ok (.iadd, 1) := by decide +kernel
theorem eX7_ends_45 : decode mX7_ends.2.1 45 = .ok (.iaload, 1) := by decide +kernel
theorem eX7_ends_46 : decode mX7_ends.2.1 46 = .ok (.istore_n 3, 1) := by decide +kernel
theorem eX7_ends_47 : decode mX7_ends.2.1 47 = .ok (.aload_n 0, 1) := by decide +kernel
theorem eX7_ends_48 : decode mX7_ends.2.1 48 = .ok (.getfield 15, 3) := by decide +kernel
theorem eX7_ends_51 : decode mX7_ends.2.1 51 = .ok (.bipush 87, 2) := by decide +kernel
theorem eX7_ends_53 : decode mX7_ends.2.1 53 = .ok (.iconst 2, 1) := by decide +kernel
theorem eX7_ends_54 : decode mX7_ends.2.1 54 = .ok (.iload_n 2, 1) := by decide +kernel
theorem eX7_ends_55 : decode mX7_ends.2.1 55 = .ok (.imul, 1) := by decide +kernel
theorem eX7_ends_56 : decode mX7_ends.2.1 56 = .ok (.iadd, 1) := by decide +kernel
theorem eX7_ends_57 : decode mX7_ends.2.1 57 = .ok (.iaload, 1) := by decide +kernel
theorem eX7_ends_58 : decode mX7_ends.2.1 58 = .ok (.istore 4, 2) := by decide +kernel
theorem eX7_ends_60 : decode mX7_ends.2.1 60 = .ok (.iload_n 3, 1) := by decide +kernel
theorem eX7_ends_61 : decode mX7_ends.2.1 61 = .ok (.ifCond .ne 10, 3) := by decide +kernel
theorem eX7_ends_64 : decode mX7_ends.2.1 64 = .ok (.aload_n 0, 1) := by decide +kernel
theorem eX7_ends_65 : decode mX7_ends.2.1 65 = .ok (.invokevirtual 200, 3) := by decide +kernel
theorem eX7_ends_68 : decode mX7_ends.2.1 68 = .ok (.goto 52, 3) := by decide +kernel
theorem eX7_ends_71 : decode mX7_ends.2.1 71 = .ok (.iload_n 3, 1) := by decide +kernel
theorem eX7_ends_72 : decode mX7_ends.2.1 72 = .ok (.iconst 1, 1) := by decide +kernel
theorem eX7_ends_73 : decode mX7_ends.2.1 73 = .ok (.if_icmp .ne 12, 3) := by decide +kernel
theorem eX7_ends_76 : decode mX7_ends.2.1 76 = .ok (.aload_n 0, 1) := by decide +kernel
theorem eX7_ends_77 : decode mX7_ends.2.1 77 = .ok (.iload 4, 2) := by decide +kernel
theorem eX7_ends_79 : decode mX7_ends.2.1 79 = .ok (.invokevirtual 113, 3) := by decide +kernel
theorem eX7_ends_82 : decode mX7_ends.2.1 82 = .ok (.goto 38, 3) := by decide +kernel
theorem eX7_ends_85 : decode mX7_ends.2.1 85 = .ok (.iload_n 3, 1) := by decide +kernel
theorem eX7_ends_86 : decode mX7_ends.2.1 86 = .ok (.iconst 2, 1) := by decide +kernel
theorem eX7_ends_87 : decode mX7_ends.2.1 87 = .ok (.if_icmp .ne 24, 3) := by decide +kernel
theorem eX7_ends_90 : decode mX7_ends.2.1 90 = .ok (.aload_n 0, 1) := by decide +kernel
theorem eX7_ends_91 : decode mX7_ends.2.1 91 = .ok (.iload 4, 2) := by decide +kernel
theorem eX7_ends_93 : decode mX7_ends.2.1 93 = .ok (.iconst 3, 1) := by decide +kernel
theorem eX7_ends_94 : decode mX7_ends.2.1 94 = .ok (.iconst 0, 1) := by decide +kernel
theorem eX7_ends_95 : decode mX7_ends.2.1 95 = .ok (.invokevirtual 109, 3) := by decide +kernel
theorem eX7_ends_98 : decode mX7_ends.2.1 98 = .ok (.pop, 1) := by decide +kernel
theorem eX7_ends_99 : decode mX7_ends.2.1 99 = .ok (.aload_n 0, 1) := by decide +kernel
theorem eX7_ends_100 : decode mX7_ends.2.1 100 = .ok (.iload 4, 2) := by decide +kernel
theorem eX7_ends_102 : decode mX7_ends.2.1 102 = .ok (.iconst 4, 1) := by decide +kernel
theorem eX7_ends_103 : decode mX7_ends.2.1 103 = .ok (.iconst 0, 1) := by decide +kernel
theorem eX7_ends_104 : decode mX7_ends.2.1 104 = .ok (.invokevirtual 109, 3) := by decide +kernel
theorem eX7_ends_107 : decode mX7_ends.2.1 107 = .ok (.pop, 1) := by decide +kernel
theorem eX7_ends_108 : decode mX7_ends.2.1 108 = .ok (.goto 12, 3) := by decide +kernel
theorem eX7_ends_111 : decode mX7_ends.2.1 111 = .ok (.aload_n 0, 1) := by decide +kernel
theorem eX7_ends_112 : decode mX7_ends.2.1 112 = .ok (.getfield 15, 3) := by decide +kernel
theorem eX7_ends_115 : decode mX7_ends.2.1 115 = .ok (.bipush 62, 2) := by decide +kernel
theorem eX7_ends_117 : decode mX7_ends.2.1 117 = .ok (.iload 4, 2) := by decide +kernel
theorem eX7_ends_119 : decode mX7_ends.2.1 119 = .ok (.iastore, 1) := by decide +kernel
theorem eX7_ends_120 : decode mX7_ends.2.1 120 = .ok (.iinc 2 1, 3) := by decide +kernel
theorem eX7_ends_123 : decode mX7_ends.2.1 123 = .ok (.goto (-99), 3) := by decide +kernel
theorem eX7_ends_126 : decode mX7_ends.2.1 126 = .ok (.iload_n 1, 1) := by decide +kernel
theorem eX7_ends_127 : decode mX7_ends.2.1 127 = .ok (.ifCond .ne 11, 3) := by decide +kernel
theorem eX7_ends_130 : decode mX7_ends.2.1 130 = .ok (.aload_n 0, 1) := by decide +kernel
theorem eX7_ends_131 : decode mX7_ends.2.1 131 = .ok (.iconst 4, 1) := by decide +kernel
theorem eX7_ends_132 : decode mX7_ends.2.1 132 = .ok (.invokevirtual 117, 3) := by decide +kernel
theorem eX7_ends_135 : decode mX7_ends.2.1 135 = .ok (.goto 8, 3) := by decide +kernel
theorem eX7_ends_138 : decode mX7_ends.2.1 138 = .ok (.aload_n 0, 1) := by decide +kernel
theorem eX7_ends_139 : decode mX7_ends.2.1 139 = .ok (.iconst 1, 1) := by decide +kernel
theorem eX7_ends_140 : decode mX7_ends.2.1 140 = .ok (.invokevirtual 206, 3) := by decide +kernel
theorem eX7_ends_143 : decode mX7_ends.2.1 143 = .ok (.istore_n 2, 1) := by decide +kernel
theorem eX7_ends_144 : decode mX7_ends.2.1 144 = .ok (.aload_n 0, 1) := by decide +kernel
theorem eX7_ends_145 : decode mX7_ends.2.1 145 = .ok (.getfield 19, 3) := by decide +kernel
theorem eX7_ends_148 : decode mX7_ends.2.1 148 = .ok (.aload_n 0, 1) := by decide +kernel
theorem eX7_ends_149 : decode mX7_ends.2.1 149 = .ok (.getfield 15, 3) := by decide +kernel
theorem eX7_ends_152 : decode mX7_ends.2.1 152 = .ok (.invokestatic 76, 3) := by decide +kernel
theorem eX7_ends_155 : decode mX7_ends.2.1 155 = .ok (.iload_n 2, 1) := by decide +kernel
theorem eX7_ends_156 : decode mX7_ends.2.1 156 = .ok (.ireturn, 1) := by decide +kernel
theorem lp_X7_ends (hz : mZ U) {F : FT} (hF : mRd U = F) {a : Nat} {w : Int32} (hd : 26 ≤ d) {h0 : Hp} : ∀ (j r t : Nat) (y : Int32) (g : Nat → Int32) (o3 o4 : Option Value) (h : Hp) (U1 : MS), j = a - r → r ≤ a → y = nI r → gOk g m t → gP g a → t + (a - r) ≤ 1073741824 → MK n g U U1 → MAt h u U1 → Same u 19 h0 h → (∀ h' U' y' o3' o4', MAt h' u U' → MK n (sPl F m (a - r) r t g) U U' → Same u 19 h0 h' → AW l G mX7_ends d 0 0 Q 0 0 h' [some (.ref u), some (.int w), some (.int y'), o3', o4'] [] 126) → AW l G mX7_ends d 0 0 Q 0 0 h [some (.ref u), some (.int w), some (.int y), o3, o4] [] 24 := by
  intro j
  induction j using Nat.strongRecOn with
  | _ j ih =>
    intro r t y g o3 o4 h U1 hj hr hy hg hgP htj hk hM hs hQ
    subst hy
    have hm6 := hg.2.1
    have ha10 := hgP.2.1
    refine aw_iload_n (pc' := 25) eX7_ends_24 rfl rfl ?_
    refine aw_aload_n (pc' := 26) eX7_ends_25 rfl rfl trivial ?_
    refine aw_Mref (pc' := 29) (kf := 0) 1 hM eX7_ends_26 rfl (by decide) rfl q789 ?_
    refine aw_bipush (pc' := 31) (v := 85) eX7_ends_29 rfl (by decide) ?_
    refine aw_MaldC (pc' := 32) 1 85 hM eX7_ends_31 rfl (by decide) (by unfold vp_in; decide) (by decide) ?_
    refine aw_icmp_ge (pc' := 35) (tgt := 126) eX7_ends_32 rfl (by decide) (fun c_32 => ?_) (fun c_32 => ?_)
    · rw [hk.1, hgP.1] at c_32
      have c9 := ge_nI (by omega) (by omega) c_32
      obtain rfl : r = a := by omega
      rw [Nat.sub_self] at hQ
      exact hQ _ _ _ _ _ hM hk hs
    · rw [hk.1, hgP.1] at c_32
      have c9 := nge_nI (by omega) (by omega) c_32
      obtain ⟨hx6, hv6⟩ := ix3 (c := 86) (b := 2) (a := r) (by omega)
      obtain ⟨hx7, hv7⟩ := ix3 (c := 87) (b := 2) (a := r) (by omega)
      refine aw_aload_n (pc' := 36) eX7_ends_35 rfl rfl trivial ?_
      refine aw_Mref (pc' := 39) (kf := 0) 1 hM eX7_ends_36 rfl (by decide) rfl q789 ?_
      refine aw_bipush (pc' := 41) (v := 86) eX7_ends_39 rfl (by decide) ?_
      refine aw_iconst (pc' := 42) (v := 2) eX7_ends_41 rfl (by decide) ?_
      refine aw_iload_n (pc' := 43) eX7_ends_42 rfl rfl ?_
      refine aw_imul (pc' := 44) eX7_ends_43 rfl ?_
      refine aw_iadd (pc' := 45) eX7_ends_44 rfl ?_
      refine aw_MaldC (pc' := 46) 1 (86 + 2 * r) hM eX7_ends_45 rfl (by decide) hv6 hx6 ?_
      refine aw_istore_n (pc' := 47) eX7_ends_46 rfl (by decide) ?_
      dsimp only [zst, zst2, zcut]
      refine aw_aload_n (pc' := 48) eX7_ends_47 rfl rfl trivial ?_
      refine aw_Mref (pc' := 51) (kf := 0) 1 hM eX7_ends_48 rfl (by decide) rfl q789 ?_
      refine aw_bipush (pc' := 53) (v := 87) eX7_ends_51 rfl (by decide) ?_
      refine aw_iconst (pc' := 54) (v := 2) eX7_ends_53 rfl (by decide) ?_
      refine aw_iload_n (pc' := 55) eX7_ends_54 rfl rfl ?_
      refine aw_imul (pc' := 56) eX7_ends_55 rfl ?_
      refine aw_iadd (pc' := 57) eX7_ends_56 rfl ?_
      refine aw_MaldC (pc' := 58) 1 (87 + 2 * r) hM eX7_ends_57 rfl (by decide) hv7 hx7 ?_
      refine aw_istore (pc' := 60) eX7_ends_58 rfl (by decide) ?_
      dsimp only [zst, zst2, zcut]
      refine aw_iload_n (pc' := 61) eX7_ends_60 rfl rfl ?_
      refine aw_if_ne (pc' := 64) (tgt := 71) eX7_ends_61 rfl (by decide) (fun c_61 => ?_) (fun c_61 => ?_)
      · rw [hk.1] at c_61
        refine aw_iload_n (pc' := 72) eX7_ends_71 rfl rfl ?_
        refine aw_iconst (pc' := 73) (v := 1) eX7_ends_72 rfl (by decide) ?_
        refine aw_icmp_ne (pc' := 76) (tgt := 85) eX7_ends_73 rfl (by decide) (fun c_73 => ?_) (fun c_73 => ?_)
        · rw [hk.1] at c_73
          refine aw_iload_n (pc' := 86) eX7_ends_85 rfl rfl ?_
          refine aw_iconst (pc' := 87) (v := 2) eX7_ends_86 rfl (by decide) ?_
          refine aw_icmp_ne (pc' := 90) (tgt := 111) eX7_ends_87 rfl (by decide) (fun c_87 => ?_) (fun c_87 => ?_)
          · rw [hk.1] at c_87
            refine aw_aload_n (pc' := 112) eX7_ends_111 rfl rfl trivial ?_
            refine aw_Mref (pc' := 115) (kf := 0) 1 hM eX7_ends_112 rfl (by decide) rfl q789 ?_
            refine aw_bipush (pc' := 117) (v := 62) eX7_ends_115 rfl (by decide) ?_
            refine aw_iload (pc' := 119) eX7_ends_117 rfl rfl ?_
            refine aw_MastC (pc' := 120) 1 62 hM eX7_ends_119 rfl (by decide) (by unfold vp_in; decide) (by decide) (fun h3 hM1 hs2 => ?_)
            refine aw_iinc (pc' := 123) eX7_ends_120 rfl rfl rfl (by decide) ?_
            dsimp only [zst, zst2, zcut]
            refine aw_goto eX7_ends_123 (by decide) (tgt := 24) ?_
            have e : sPl1 F m t g (g (86 + 2 * r)) (g (87 + 2 * r)) = (upd g 62 (g (87 + 2 * r)), t) := by rw [sPl1, if_neg c_61, if_neg c_73, if_neg c_87]
            have kz : MK n (upd g 62 (U1.1 1 (87 + 2 * r))) U (mup U1 1 62 (U1.1 1 (87 + 2 * r))) := (hk).up
            rw [hk.1] at kz
            have hM9 := hM1
            rw [hk.1] at hM9
            obtain ⟨q1, q2, q3⟩ := sPl1_ok (F := F) (w := g (86 + 2 * r)) (x := g (87 + 2 * r)) hg (by omega) (hgP.2.2 r (by omega))
            have eQ : sPl F m (a - r) r t g = sPl F m (a - (r + 1)) (r + 1) (sPl1 F m t g (g (86 + 2 * r)) (g (87 + 2 * r))).2 (sPl1 F m t g (g (86 + 2 * r)) (g (87 + 2 * r))).1 := by rw [show a - r = (a - (r + 1)) + 1 by omega, sPl]
            rw [eQ, e] at hQ
            rw [e] at q1 q2 q3
            exact ih (a - (r + 1)) (by omega) (r + 1) _ _ _ _ _ _ _ rfl (by omega) (nI_inc r) q1 (gP_of hgP (fun j h1 _ => q3 j h1)) (by have : _ ≤ t + 1 := q2; omega) kz hM9 (hs.tr hs2) hQ
          · rw [hk.1] at c_87
            obtain ⟨b, hb, eb⟩ := hgP.2.2 r c9 (Or.inr (by first | exact c_87 | exact Decidable.not_not.mp c_87))
            rw [show U1.1 1 (87 + 2 * r) = nI b by rw [hk.1]; exact eb]
            refine aw_aload_n (pc' := 91) eX7_ends_90 rfl rfl trivial ?_
            refine aw_iload (pc' := 93) eX7_ends_91 rfl rfl ?_
            refine aw_iconst (pc' := 94) (v := 3) eX7_ends_93 rfl (by decide) ?_
            refine aw_iconst (pc' := 95) (v := 0) eX7_ends_94 rfl (by decide) ?_
            refine aw_callv (pc' := 98) (nn := 3) (c_change (d := d - 1) hM b 3 _ (by omega) (by omega)) eX7_ends_95 rfl ⟨q986, q989, q62⟩ q988 q43 ⟨rfl, by decide +kernel, by decide +kernel, by decide +kernel⟩ rfl (by rw [hM.2.1]; exact ⟨rfl, rfl⟩) rfl ⟨by omega, by decide⟩ ⟨by omega, by omega⟩ rfl (Nat.le_of_ble_eq_true rfl) (fun v6 h7 hq8 => ?_)
            obtain ⟨rfl, hM4, hs5⟩ := hq8
            dsimp only [Option.toList, List.cons_append, List.nil_append]
            refine aw_pop (pc' := 99) eX7_ends_98 rfl rfl ?_
            refine aw_aload_n (pc' := 100) eX7_ends_99 rfl rfl trivial ?_
            refine aw_iload (pc' := 102) eX7_ends_100 rfl rfl ?_
            refine aw_iconst (pc' := 103) (v := 4) eX7_ends_102 rfl (by decide) ?_
            refine aw_iconst (pc' := 104) (v := 0) eX7_ends_103 rfl (by decide) ?_
            refine aw_callv (pc' := 107) (nn := 3) (c_change (d := d - 1) hM4 b 4 _ (by omega) (by omega)) eX7_ends_104 rfl ⟨q986, q989, q62⟩ q988 q43 ⟨rfl, by decide +kernel, by decide +kernel, by decide +kernel⟩ rfl (by rw [hM4.2.1]; exact ⟨rfl, rfl⟩) rfl ⟨by omega, by decide⟩ ⟨by omega, by omega⟩ rfl (Nat.le_of_ble_eq_true rfl) (fun v11 h12 hq13 => ?_)
            obtain ⟨rfl, hM9, hs10⟩ := hq13
            have hT14 := hs5.tr hs10
            dsimp only [Option.toList, List.cons_append, List.nil_append]
            refine aw_pop (pc' := 108) eX7_ends_107 rfl rfl ?_
            refine aw_goto eX7_ends_108 (by decide) (tgt := 120) ?_
            refine aw_iinc (pc' := 123) eX7_ends_120 rfl rfl rfl (by decide) ?_
            dsimp only [zst, zst2, zcut]
            refine aw_goto eX7_ends_123 (by decide) (tgt := 24) ?_
            have c87 : g (86 + 2 * r) = 2 := by first | exact c_87 | exact Decidable.not_not.mp c_87
            have e : sPl1 F m t g (g (86 + 2 * r)) (g (87 + 2 * r)) = (upd (upd g (10 * b + 3) 0) (10 * b + 4) 0, t) := by rw [sPl1, if_neg c_61, if_neg c_73, if_pos c87, eb, nI_clamp (by omega)]
            have kz : MK n (upd (upd g (10 * b + 3) 0) (10 * b + 4) 0) U (mup (mup U1 1 (10 * b + 3) 0) 1 (10 * b + 4) 0) := ((hk).up).up
            obtain ⟨q1, q2, q3⟩ := sPl1_ok (F := F) (w := g (86 + 2 * r)) (x := g (87 + 2 * r)) hg (by omega) (hgP.2.2 r (by omega))
            have eQ : sPl F m (a - r) r t g = sPl F m (a - (r + 1)) (r + 1) (sPl1 F m t g (g (86 + 2 * r)) (g (87 + 2 * r))).2 (sPl1 F m t g (g (86 + 2 * r)) (g (87 + 2 * r))).1 := by rw [show a - r = (a - (r + 1)) + 1 by omega, sPl]
            rw [eQ, e] at hQ
            rw [e] at q1 q2 q3
            exact ih (a - (r + 1)) (by omega) (r + 1) _ _ _ _ _ _ _ rfl (by omega) (nI_inc r) q1 (gP_of hgP (fun j h1 _ => q3 j h1)) (by have : _ ≤ t + 1 := q2; omega) kz hM9 (hs.tr hT14) hQ
        · rw [hk.1] at c_73
          obtain ⟨b, hb, eb⟩ := hgP.2.2 r c9 (Or.inl (by first | exact c_73 | exact Decidable.not_not.mp c_73))
          rw [show U1.1 1 (87 + 2 * r) = nI b by rw [hk.1]; exact eb]
          refine aw_aload_n (pc' := 77) eX7_ends_76 rfl rfl trivial ?_
          refine aw_iload (pc' := 79) eX7_ends_77 rfl rfl ?_
          refine aw_callv (pc' := 82) (nn := 1) (c_X7_says (d := d - 1) hM b (by omega) (by omega)) eX7_ends_79 rfl ⟨q997, q1000, q62⟩ q999 q45 ⟨rfl, by decide +kernel, by decide +kernel, by decide +kernel⟩ rfl (by rw [hM.2.1]; exact ⟨rfl, rfl⟩) rfl ⟨by omega, by decide⟩ ⟨by omega, by omega⟩ rfl (Nat.le_of_ble_eq_true rfl) (fun v17 h18 hq19 => ?_)
          obtain ⟨rfl, hM15, hs16⟩ := hq19
          dsimp only [Option.toList, List.cons_append, List.nil_append]
          refine aw_goto eX7_ends_82 (by decide) (tgt := 120) ?_
          refine aw_iinc (pc' := 123) eX7_ends_120 rfl rfl rfl (by decide) ?_
          dsimp only [zst, zst2, zcut]
          refine aw_goto eX7_ends_123 (by decide) (tgt := 24) ?_
          have c73 : g (86 + 2 * r) = 1 := by first | exact c_73 | exact Decidable.not_not.mp c_73
          have e : sPl1 F m t g (g (86 + 2 * r)) (g (87 + 2 * r)) = (sSays g b, t) := by rw [sPl1, if_neg c_61, if_pos c73, eb, nI_clamp (by omega)]
          have kz : MK n (sSays g b) U (mg U1 (sSays (U1.1 1) b)) := by rw [hk.1]; exact hk.mg
          obtain ⟨q1, q2, q3⟩ := sPl1_ok (F := F) (w := g (86 + 2 * r)) (x := g (87 + 2 * r)) hg (by omega) (hgP.2.2 r (by omega))
          have eQ : sPl F m (a - r) r t g = sPl F m (a - (r + 1)) (r + 1) (sPl1 F m t g (g (86 + 2 * r)) (g (87 + 2 * r))).2 (sPl1 F m t g (g (86 + 2 * r)) (g (87 + 2 * r))).1 := by rw [show a - r = (a - (r + 1)) + 1 by omega, sPl]
          rw [eQ, e] at hQ
          rw [e] at q1 q2 q3
          exact ih (a - (r + 1)) (by omega) (r + 1) _ _ _ _ _ _ _ rfl (by omega) (nI_inc r) q1 (gP_of hgP (fun j h1 _ => q3 j h1)) (by have : _ ≤ t + 1 := q2; omega) kz hM15 (hs.tr hs16) hQ
      · rw [hk.1] at c_61
        refine aw_aload_n (pc' := 65) eX7_ends_64 rfl rfl trivial ?_
        refine aw_callv (pc' := 68) (nn := 0) (c_X7_day (d := d - 1) hk hM hz hg (by omega)) eX7_ends_65 rfl ⟨q970, q973, q62⟩ q972 q39 ⟨rfl, by decide +kernel, by decide +kernel, by decide +kernel⟩ rfl (by rw [hM.2.1]; exact ⟨rfl, rfl⟩) rfl ⟨by omega, by decide⟩ ⟨by omega, by omega⟩ rfl (Nat.le_of_ble_eq_true rfl) (fun v24 h25 hq26 => ?_)
        obtain ⟨rfl, V22, hM20, k23, hs21⟩ := hq26
        dsimp only [Option.toList, List.cons_append, List.nil_append]
        refine aw_goto eX7_ends_68 (by decide) (tgt := 120) ?_
        refine aw_iinc (pc' := 123) eX7_ends_120 rfl rfl rfl (by decide) ?_
        dsimp only [zst, zst2, zcut]
        refine aw_goto eX7_ends_123 (by decide) (tgt := 24) ?_
        have c61 : g (86 + 2 * r) = 0 := by first | exact c_61 | exact Decidable.not_not.mp c_61
        have kz := k23
        rw [hF] at kz
        have e : sPl1 F m t g (g (86 + 2 * r)) (g (87 + 2 * r)) = (sDay F m t g, t + 1) := by rw [sPl1, if_pos c61]
        obtain ⟨q1, q2, q3⟩ := sPl1_ok (F := F) (w := g (86 + 2 * r)) (x := g (87 + 2 * r)) hg (by omega) (hgP.2.2 r (by omega))
        have eQ : sPl F m (a - r) r t g = sPl F m (a - (r + 1)) (r + 1) (sPl1 F m t g (g (86 + 2 * r)) (g (87 + 2 * r))).2 (sPl1 F m t g (g (86 + 2 * r)) (g (87 + 2 * r))).1 := by rw [show a - r = (a - (r + 1)) + 1 by omega, sPl]
        rw [eQ, e] at hQ
        rw [e] at q1 q2 q3
        exact ih (a - (r + 1)) (by omega) (r + 1) _ _ _ _ _ _ _ rfl (by omega) (nI_inc r) q1 (gP_of hgP (fun j h1 _ => q3 j h1)) (by have : _ ≤ t + 1 := q2; omega) kz hM20 (hs.tr hs21) hQ
theorem sPl_ok {F : FT} {a : Nat} : ∀ (k r t : Nat) (g : Nat → Int32), gOk g m t → gP g a → r + k ≤ a → t + k ≤ 1073741824 → sPl F m k r t g 60 = g 60
  | 0, _, _, _, _, _, _, _ => rfl
  | k + 1, r, t, g, hg, hgP, hr, ht => by
    obtain ⟨q1, q2, q3⟩ := sPl1_ok (F := F) (w := g (86 + 2 * r)) (x := g (87 + 2 * r)) hg (by omega) (hgP.2.2 r (by omega))
    rw [sPl, sPl_ok k (r + 1) _ _ q1 (gP_of hgP (fun j h1 _ => q3 j h1)) (by omega) (by omega)]
    exact q1.1.trans hg.1.symm
theorem c_X7_ends (hk : MK n g U U1) (hM : MAt h u U1) (hz : mZ U) (hg : gOk g m t) (hn : 1 ≤ n) {a : Nat} (hgP : gP g a) (ht6 : t ≤ 1000000000) (w : Int32) (hd : 26 ≤ d) : Ct l G mX7_ends yX7_ends d 0 0 [.ref u, .int w] h (fun r h' => r = some (.int (sEnds (mRd U) g m a t w)) ∧ ∃ U', MAt h' u U' ∧ MK n g U U' ∧ Same u 19 h h') := by
  refine ct_of (lv := [some (.ref u), some (.int w), none, none, none]) (by decide +kernel) rfl (fun z => by cases z) (fun _ => rfl) (fun _ => Nat.le_of_ble_eq_true rfl) ?_
  have hgg := hg
  obtain ⟨hm, hm6, ht, ht2, hgq⟩ := hgg
  refine aw_iload_n (pc' := 1) eX7_ends_0 rfl rfl ?_
  refine aw_iconst (pc' := 2) (v := 0) eX7_ends_1 rfl (by decide) ?_
  refine aw_iconst (pc' := 3) (v := 1) eX7_ends_2 rfl (by decide) ?_
  refine aw_calls (pc' := 6) (nn := 3) (c_X7_isIn (d := d - 1) _ _ _ (by omega)) eX7_ends_3 rfl ⟨q890, q892, q62⟩ q891 ⟨by decide +kernel, by decide +kernel, by decide +kernel⟩ rfl ⟨by omega, by decide⟩ ⟨by omega, by omega⟩ rfl (Nat.le_of_ble_eq_true rfl) (fun v1 h2 hq3 => ?_)
  obtain ⟨rfl, rfl⟩ := hq3
  dsimp only [Option.toList, List.cons_append, List.nil_append]
  refine aw_if_ne (pc' := 9) (tgt := 11) eX7_ends_6 rfl (by decide) (fun c_6 => ?_) (fun c_6 => ?_)
  · simp only [zb_eq0, Bool.not_eq_false, Bool.not_eq_true, decide_eq_true_eq, decide_eq_false_iff_not, Decidable.not_not] at c_6
    refine aw_aload_n (pc' := 12) eX7_ends_11 rfl rfl trivial ?_
    refine aw_Mref (pc' := 15) (kf := 0) 1 hM eX7_ends_12 rfl (by decide) rfl q789 ?_
    refine aw_aload_n (pc' := 16) eX7_ends_15 rfl rfl trivial ?_
    refine aw_Mref (pc' := 19) (kf := 1) 2 hM eX7_ends_16 rfl (by decide) rfl q790 ?_
    refine aw_calls (pc' := 22) (nn := 2) (c_X7_move (d := d - 1) hM 1 2 (by decide) (by decide) (by decide) (by omega)) eX7_ends_19 rfl ⟨q879, q881, q62⟩ q880 ⟨by decide +kernel, by decide +kernel, by decide +kernel⟩ rfl ⟨by omega, by decide⟩ ⟨by omega, by omega⟩ rfl (Nat.le_of_ble_eq_true rfl) (fun v6 h7 hq8 => ?_)
    obtain ⟨rfl, hM4, hs5⟩ := hq8
    dsimp only [Option.toList, List.cons_append, List.nil_append]
    refine aw_iconst (pc' := 23) (v := 0) eX7_ends_22 rfl (by decide) ?_
    refine aw_istore_n (pc' := 24) eX7_ends_23 rfl (by decide) ?_
    dsimp only [zst, zst2, zcut]
    have b0 := MK.b0 hk.1
    have ha10 := hgP.2.1
    refine lp_X7_ends (n := 0) (U := mset U1 2 (U1.1 1)) (F := mRd U) (hz.k (hk.m2 hn)) (mRd_K (hk.m2 hn)) (a := a) (by omega) a 0 t _ g _ _ _ _ (by omega) (by omega) rfl hg hgP (by omega) b0 hM4 hs5 (fun h' V9 y' o3' o4' m9 k9 s9 => ?_)
    rw [Nat.sub_zero] at k9
    refine aw_iload_n (pc' := 127) eX7_ends_126 rfl rfl ?_
    refine aw_if_ne (pc' := 130) (tgt := 138) eX7_ends_127 rfl (by decide) (fun c_127 => ?_) (fun c_127 => ?_)
    · refine aw_aload_n (pc' := 139) eX7_ends_138 rfl rfl trivial ?_
      refine aw_iconst (pc' := 140) (v := 1) eX7_ends_139 rfl (by decide) ?_
      refine aw_callv (pc' := 143) (nn := 1) (c_X7_which (d := d - 1) m9 (show mOk V9 m from ⟨by rw [k9.1]; exact (sPl_ok a 0 t g hg hgP (by omega) (by omega)).trans hm, hm6⟩) 1 (by omega)) eX7_ends_140 rfl ⟨q1040, q1043, q62⟩ q1042 q47 ⟨rfl, by decide +kernel, by decide +kernel, by decide +kernel⟩ rfl (by rw [m9.2.1]; exact ⟨rfl, rfl⟩) rfl ⟨by omega, by decide⟩ ⟨by omega, by omega⟩ rfl (Nat.le_of_ble_eq_true rfl) (fun v1 h2 hq3 => ?_)
      obtain ⟨rfl, rfl⟩ := hq3
      dsimp only [Option.toList, List.cons_append, List.nil_append]
      refine aw_istore_n (pc' := 144) eX7_ends_143 rfl (by decide) ?_
      dsimp only [zst, zst2, zcut]
      refine aw_aload_n (pc' := 145) eX7_ends_144 rfl rfl trivial ?_
      refine aw_Mref (pc' := 148) (kf := 1) 2 m9 eX7_ends_145 rfl (by decide) rfl q790 ?_
      refine aw_aload_n (pc' := 149) eX7_ends_148 rfl rfl trivial ?_
      refine aw_Mref (pc' := 152) (kf := 0) 1 m9 eX7_ends_149 rfl (by decide) rfl q789 ?_
      refine aw_calls (pc' := 155) (nn := 2) (c_X7_move (d := d - 1) m9 2 1 (by decide) (by decide) (by decide) (by omega)) eX7_ends_152 rfl ⟨q879, q881, q62⟩ q880 ⟨by decide +kernel, by decide +kernel, by decide +kernel⟩ rfl ⟨by omega, by decide⟩ ⟨by omega, by omega⟩ rfl (Nat.le_of_ble_eq_true rfl) (fun v6 h7 hq8 => ?_)
      obtain ⟨rfl, hM4, hs5⟩ := hq8
      have hT9 := s9.tr hs5
      dsimp only [Option.toList, List.cons_append, List.nil_append]
      refine aw_iload_n (pc' := 156) eX7_ends_155 rfl rfl ?_
      refine aw_ret (v := some (.int _)) eX7_ends_156 ⟨rfl, rfl⟩ (by omega) (by omega) rfl ?_
      have kz := hk.tri hn k9
      exact ⟨by rw [sEnds, if_pos c_6, if_neg c_127, k9.1], _, hM4, kz, hT9⟩
    · refine aw_aload_n (pc' := 131) eX7_ends_130 rfl rfl trivial ?_
      refine aw_iconst (pc' := 132) (v := 4) eX7_ends_131 rfl (by decide) ?_
      refine aw_callv (pc' := 135) (nn := 1) (c_X7_howMany (d := d - 1) m9 (show mOk V9 m from ⟨by rw [k9.1]; exact (sPl_ok a 0 t g hg hgP (by omega) (by omega)).trans hm, hm6⟩) 4 (by omega)) eX7_ends_132 rfl ⟨q1005, q1008, q62⟩ q1007 q46 ⟨rfl, by decide +kernel, by decide +kernel, by decide +kernel⟩ rfl (by rw [m9.2.1]; exact ⟨rfl, rfl⟩) rfl ⟨by omega, by decide⟩ ⟨by omega, by omega⟩ rfl (Nat.le_of_ble_eq_true rfl) (fun v10 h11 hq12 => ?_)
      obtain ⟨rfl, rfl⟩ := hq12
      dsimp only [Option.toList, List.cons_append, List.nil_append]
      refine aw_goto eX7_ends_135 (by decide) (tgt := 143) ?_
      refine aw_istore_n (pc' := 144) eX7_ends_143 rfl (by decide) ?_
      dsimp only [zst, zst2, zcut]
      refine aw_aload_n (pc' := 145) eX7_ends_144 rfl rfl trivial ?_
      refine aw_Mref (pc' := 148) (kf := 1) 2 m9 eX7_ends_145 rfl (by decide) rfl q790 ?_
      refine aw_aload_n (pc' := 149) eX7_ends_148 rfl rfl trivial ?_
      refine aw_Mref (pc' := 152) (kf := 0) 1 m9 eX7_ends_149 rfl (by decide) rfl q789 ?_
      refine aw_calls (pc' := 155) (nn := 2) (c_X7_move (d := d - 1) m9 2 1 (by decide) (by decide) (by decide) (by omega)) eX7_ends_152 rfl ⟨q879, q881, q62⟩ q880 ⟨by decide +kernel, by decide +kernel, by decide +kernel⟩ rfl ⟨by omega, by decide⟩ ⟨by omega, by omega⟩ rfl (Nat.le_of_ble_eq_true rfl) (fun v15 h16 hq17 => ?_)
      obtain ⟨rfl, hM13, hs14⟩ := hq17
      have hT18 := s9.tr hs14
      dsimp only [Option.toList, List.cons_append, List.nil_append]
      refine aw_iload_n (pc' := 156) eX7_ends_155 rfl rfl ?_
      refine aw_ret (v := some (.int _)) eX7_ends_156 ⟨rfl, rfl⟩ (by omega) (by omega) rfl ?_
      have kz := hk.tri hn k9
      exact ⟨by rw [sEnds, if_pos c_6, if_pos (by first | exact c_127 | exact Decidable.not_not.mp c_127), k9.1], _, hM13, kz, hT18⟩
  · refine aw_iconst (pc' := 10) (v := -1) eX7_ends_9 rfl (by decide) ?_
    refine aw_ret (v := some (.int _)) eX7_ends_10 ⟨rfl, rfl⟩ (by omega) (by omega) rfl ?_
    simp only [zb_eq0, Bool.not_eq_false, Bool.not_eq_true, decide_eq_true_eq, decide_eq_false_iff_not, Decidable.not_not] at c_6
    exact ⟨by rw [sEnds, if_neg (by rw [c_6]; decide)], _, hM, hk, Same.rf⟩
end M21
