/-! the model: on, begin, odds' trials -/
section M19
variable {l : Launch} {G : GT} {u : Nat} {U U1 : MS} {d n m t : Nat} {g : Nat → Int32} {h : Hp} {Q : Option Value → Hp → Prop}
abbrev sOnOk (m : Nat) (w : Int32) : Prop := w = 0 ∨ bIn (w - 10) 0 (nI m - 1) = true ∨ bIn (w - 20) 0 (nI m - 1) = true
def sOnV (g : Nat → Int32) (m : Nat) (w : Int32) : Int32 := if w = 0 then sCnt g 4 m else if w < 20 then g (10 * (w - 10).toNatClampNeg + 3) else g (10 * (w - 20).toNatClampNeg + 5)
theorem on_lt {m : Nat} {w : Int32} (hm : m ≤ 6) (h : sOnOk m w) (h0 : ¬ w = 0) : (w < 20 → ∃ b, b < m ∧ w - 10 = nI b) ∧ (¬ w < 20 → ∃ b, b < m ∧ w - 20 = nI b) := by
  rcases h with h | h | h
  · exact absurd h h0
  · obtain ⟨b, hb, e⟩ := (bIn_one hm).mp h
    refine ⟨fun _ => ⟨b, hb, e⟩, fun z => absurd ?_ z⟩
    have e2 : w = nI (b + 10) := by
      rw [← nI_add, ← e]
      exact (Int32.sub_add_cancel w 10).symm
    rw [e2]
    exact (nI_ltI (b := 20) (by omega) (by omega)).mpr (by omega)
  · obtain ⟨b, hb, e⟩ := (bIn_one hm).mp h
    refine ⟨fun z => absurd z ?_, fun _ => ⟨b, hb, e⟩⟩
    have e2 : w = nI (b + 20) := by
      rw [← nI_add, ← e]
      exact (Int32.sub_add_cancel w 20).symm
    rw [e2]
    exact fun y => absurd ((nI_ltI (b := 20) (by omega) (by omega)).mp y) (by omega)
def sOn (F : FT) (g : Nat → Int32) (m t : Nat) (x w : Int32) : Int32 := if w = 0 ∨ bIn (w - 10) 0 (nI m - 1) = true ∨ bIn (w - 20) 0 (nI m - 1) = true then if bIn x 0 60 = true then sOnV (sDys F m x.toNatClampNeg t g) m w else -2 else -1

abbrev mX7_on : MT := (RX7, cX7_on, 4, (some .int), false)
theorem eX7_on_0 : decode mX7_on.2.1 0 = .ok (.iload_n 2, 1) := by decide +kernel
theorem eX7_on_1 : decode mX7_on.2.1 1 = .ok (.ifCond .eq 27, 3) := by decide +kernel
theorem eX7_on_4 : decode mX7_on.2.1 4 = .ok (.aload_n 0, 1) := by decide +kernel
theorem eX7_on_5 : decode mX7_on.2.1 5 = .ok (.iload_n 2, 1) := by decide +kernel
theorem eX7_on_6 : decode mX7_on.2.1 6 = .ok (.bipush 10, 2) := by decide +kernel
theorem eX7_on_8 : decode mX7_on.2.1 8 = .ok (.isub, 1) := by decide +kernel
theorem eX7_on_9 : decode mX7_on.2.1 9 = .ok (.invokevirtual 88, 3) := by decide +kernel
theorem eX7_on_12 : decode mX7_on.2.1 12 = .ok (.ifCond .ne 16, 3) := by decide +kernel
theorem eX7_on_15 : decode mX7_on.2.1 15 = .ok (.aload_n 0, 1) := by decide +kernel
theorem eX7_on_16 : decode mX7_on.2.1 16 = .ok (.iload_n 2, 1) := by decide +kernel
theorem eX7_on_17 : decode mX7_on.2.1 17 = .ok (.bipush 20, 2) := by decide +kernel
theorem eX7_on_19 : decode mX7_on.2.1 19 = .ok (.isub, 1) := by decide +kernel
theorem eX7_on_20 : decode mX7_on.2.1 20 = .ok (.invokevirtual 88, 3) := by decide +kernel
theorem eX7_on_23 : decode mX7_on.2.1 23 = .ok (.ifCond .ne 5, 3) := by decide +kernel
theorem eX7_on_26 : decode mX7_on.2.1 26 = .ok (.iconst (-1), 1) := by decide +kernel
theorem eX7_on_27 : decode mX7_on.2.1 27 = .ok (.ireturn, 1) := by decide +kernel
theorem eX7_on_28 : decode mX7_on.2.1 28 = .ok (.iload_n 1, 1) := by decide +kernel
theorem eX7_on_29 : decode mX7_on.2.1 29 = .ok (.iconst 0, 1) := by decide +kernel
theorem eX7_on_30 : decode mX7_on.2.1 30 = .ok (.bipush 60, 2) := by decide +kernel
theorem eX7_on_32 : decode mX7_on.2.1 32 = .ok (.invokestatic 80, 3) := by decide +kernel
theorem eX7_on_35 : decode mX7_on.2.1 35 = .ok (.ifCond .ne 6, 3) := by decide +kernel
theorem eX7_on_38 : decode mX7_on.2.1 38 = .ok (.bipush (-2), 2) := by decide +kernel
theorem eX7_on_40 : decode mX7_on.2.1 40 = .ok (.ireturn, 1) := by decide +kernel
theorem eX7_on_41 : decode mX7_on.2.1 41 = .ok (.aload_n 0, 1) := by decide +kernel
theorem eX7_on_42 : decode mX7_on.2.1 42 = .ok (.getfield 15, 3) := by decide +kernel
theorem eX7_on_45 : decode mX7_on.2.1 45 = .ok (.aload_n 0, 1) := by decide +kernel
theorem eX7_on_46 : decode mX7_on.2.1 46 = .ok (.getfield 19, 3) := by decide +kernel
theorem eX7_on_49 : decode mX7_on.2.1 49 = .ok (.invokestatic 76, 3) := by decide +kernel
theorem eX7_on_52 : decode mX7_on.2.1 52 = .ok (.aload_n 0, 1) := by decide +kernel
theorem eX7_on_53 : decode mX7_on.2.1 53 = .ok (.iload_n 1, 1) := by decide +kernel
theorem eX7_on_54 : decode mX7_on.2.1 54 = .ok (.invokevirtual 209, 3) := by decide +kernel
theorem eX7_on_57 : decode mX7_on.2.1 57 = .ok (.iload_n 2, 1) := by decide +kernel
theorem eX7_on_58 : decode mX7_on.2.1 58 = .ok (.ifCond .ne 11, 3) := by decide +kernel
theorem eX7_on_61 : decode mX7_on.2.1 61 = .ok (.aload_n 0, 1) := by decide +kernel
theorem eX7_on_62 : decode mX7_on.2.1 62 = .ok (.iconst 4, 1) := by decide +kernel
theorem eX7_on_63 : decode mX7_on.2.1 63 = .ok (.invokevirtual 117, 3) := by decide +kernel
theorem eX7_on_66 : decode mX7_on.2.1 66 = .ok (.goto 30, 3) := by decide +kernel
theorem eX7_on_69 : decode mX7_on.2.1 69 = .ok (.iload_n 2, 1) := by decide +kernel
theorem eX7_on_70 : decode mX7_on.2.1 70 = .ok (.bipush 20, 2) := by decide +kernel
theorem eX7_on_72 : decode mX7_on.2.1 72 = .ok (.if_icmp .ge 15, 3) := by decide +kernel
theorem eX7_on_75 : decode mX7_on.2.1 75 = .ok (.aload_n 0, 1) := by decide +kernel
theorem eX7_on_76 : decode mX7_on.2.1 76 = .ok (.iload_n 2, 1) := by decide +kernel
theorem eX7_on_77 : decode mX7_on.2.1 77 = .ok (.bipush 10, 2) := by decide +kernel
theorem eX7_on_79 : decode mX7_on.2.1 79 = .ok (.isub, 1) := by decide +kernel
theorem eX7_on_80 : decode mX7_on.2.1 80 = .ok (.iconst 3, 1) := by decide +kernel
theorem eX7_on_81 : decode mX7_on.2.1 81 = .ok (.invokevirtual 84, 3) := by decide +kernel
theorem eX7_on_84 : decode mX7_on.2.1 84 = .ok (.goto 12, 3) := by decide +kernel
theorem eX7_on_87 : decode mX7_on.2.1 87 = .ok (.aload_n 0, 1) := by decide +kernel
theorem eX7_on_88 : decode mX7_on.2.1 88 = .ok (.iload_n 2, 1) := by decide +kernel
theorem eX7_on_89 : decode mX7_on.2.1 89 = .ok (.bipush 20, 2) := by decide +kernel
theorem eX7_on_91 : decode mX7_on.2.1 91 = .ok (.isub, 1) := by decide +kernel
theorem eX7_on_92 : decode mX7_on.2.1 92 = .ok (.iconst 5, 1) := by decide +kernel
theorem eX7_on_93 : decode mX7_on.2.1 93 = .ok (.invokevirtual 84, 3) := by decide +kernel
theorem eX7_on_96 : decode mX7_on.2.1 96 = .ok (.istore_n 3, 1) := by decide +kernel
theorem eX7_on_97 : decode mX7_on.2.1 97 = .ok (.aload_n 0, 1) := by decide +kernel
theorem eX7_on_98 : decode mX7_on.2.1 98 = .ok (.getfield 19, 3) := by decide +kernel
theorem eX7_on_101 : decode mX7_on.2.1 101 = .ok (.aload_n 0, 1) := by decide +kernel
theorem eX7_on_102 : decode mX7_on.2.1 102 = .ok (.getfield 15, 3) := by decide +kernel
theorem eX7_on_105 : decode mX7_on.2.1 105 = .ok (.invokestatic 76, 3) := by decide +kernel
theorem eX7_on_108 : decode mX7_on.2.1 108 = .ok (.iload_n 3, 1) := by decide +kernel
theorem eX7_on_109 : decode mX7_on.2.1 109 = .ok (.ireturn, 1) := by decide +kernel
theorem tl_X7_on (hk : MK n g U U1) (hM : MAt h u U1) (hz : mZ U) (hg : gOk g m t) (hn : 1 ≤ n) (ht6 : t ≤ 1000000000) {x w : Int32} (hw : sOnOk m w) {h0 : Hp} (hs : Same u 19 h0 h) (hd : 26 ≤ d) : AW l G mX7_on d 0 0 (fun r h' => r = some (.int (sOn (mRd U) g m t x w)) ∧ ∃ U', MAt h' u U' ∧ MK n g U U' ∧ Same u 19 h0 h') 0 0 h [some (.ref u), some (.int x), some (.int w), none] [] 28 := by
  have hgg := hg
  obtain ⟨hm, hm6, ht, ht2, hgq⟩ := hgg
  refine aw_iload_n (pc' := 29) eX7_on_28 rfl rfl ?_
  refine aw_iconst (pc' := 30) (v := 0) eX7_on_29 rfl (by decide) ?_
  refine aw_bipush (pc' := 32) (v := 60) eX7_on_30 rfl (by decide) ?_
  refine aw_calls (pc' := 35) (nn := 3) (c_X7_isIn (d := d - 1) _ _ _ (by omega)) eX7_on_32 rfl ⟨q890, q892, q62⟩ q891 ⟨by decide +kernel, by decide +kernel, by decide +kernel⟩ rfl ⟨by omega, by decide⟩ ⟨by omega, by omega⟩ rfl (Nat.le_of_ble_eq_true rfl) (fun v1 h2 hq3 => ?_)
  obtain ⟨rfl, rfl⟩ := hq3
  dsimp only [Option.toList, List.cons_append, List.nil_append]
  refine aw_if_ne (pc' := 38) (tgt := 41) eX7_on_35 rfl (by decide) (fun c_35 => ?_) (fun c_35 => ?_)
  · simp only [zb_eq0, Bool.not_eq_false, Bool.not_eq_true, decide_eq_true_eq, decide_eq_false_iff_not, Decidable.not_not] at c_35
    have c35 := c_35
    obtain ⟨x, hx, rfl⟩ := (bIn_lit (N := 60) (by omega)).mp c_35
    have clx : (nI x).toNatClampNeg = x := nI_clamp (by omega)
    have b0 := MK.b0 hk.1
    refine aw_aload_n (pc' := 42) eX7_on_41 rfl rfl trivial ?_
    refine aw_Mref (pc' := 45) (kf := 0) 1 hM eX7_on_42 rfl (by decide) rfl q789 ?_
    refine aw_aload_n (pc' := 46) eX7_on_45 rfl rfl trivial ?_
    refine aw_Mref (pc' := 49) (kf := 1) 2 hM eX7_on_46 rfl (by decide) rfl q790 ?_
    refine aw_calls (pc' := 52) (nn := 2) (c_X7_move (d := d - 1) hM 1 2 (by decide) (by decide) (by decide) (by omega)) eX7_on_49 rfl ⟨q879, q881, q62⟩ q880 ⟨by decide +kernel, by decide +kernel, by decide +kernel⟩ rfl ⟨by omega, by decide⟩ ⟨by omega, by omega⟩ rfl (Nat.le_of_ble_eq_true rfl) (fun v6 h7 hq8 => ?_)
    obtain ⟨rfl, hM4, hs5⟩ := hq8
    dsimp only [Option.toList, List.cons_append, List.nil_append]
    refine aw_aload_n (pc' := 53) eX7_on_52 rfl rfl trivial ?_
    refine aw_iload_n (pc' := 54) eX7_on_53 rfl rfl ?_
    refine aw_callv (pc' := 57) (nn := 1) (c_X7_days (d := d - 1) b0 hM4 (hz.k (hk.m2 hn)) hg (x := x) (by omega) (by omega) (by omega)) eX7_on_54 rfl ⟨q1048, q1051, q62⟩ q1050 q48 ⟨rfl, by decide +kernel, by decide +kernel, by decide +kernel⟩ rfl (by rw [hM4.2.1]; exact ⟨rfl, rfl⟩) rfl ⟨by omega, by decide⟩ ⟨by omega, by omega⟩ rfl (Nat.le_of_ble_eq_true rfl) (fun v11 h12 hq13 => ?_)
    obtain ⟨rfl, V, hM9, k2, hs10⟩ := hq13
    have hT14 := hs5.tr hs10
    dsimp only [Option.toList, List.cons_append, List.nil_append]
    refine aw_iload_n (pc' := 58) eX7_on_57 rfl rfl ?_
    refine aw_if_ne (pc' := 61) (tgt := 69) eX7_on_58 rfl (by decide) (fun c_58 => ?_) (fun c_58 => ?_)
    · refine aw_iload_n (pc' := 70) eX7_on_69 rfl rfl ?_
      refine aw_bipush (pc' := 72) (v := 20) eX7_on_70 rfl (by decide) ?_
      refine aw_icmp_ge (pc' := 75) (tgt := 87) eX7_on_72 rfl (by decide) (fun c_72 => ?_) (fun c_72 => ?_)
      · refine aw_aload_n (pc' := 88) eX7_on_87 rfl rfl trivial ?_
        refine aw_iload_n (pc' := 89) eX7_on_88 rfl rfl ?_
        refine aw_bipush (pc' := 91) (v := 20) eX7_on_89 rfl (by decide) ?_
        refine aw_isub (pc' := 92) eX7_on_91 rfl ?_
        obtain ⟨b, hb, eb⟩ := (on_lt hm6 hw c_58).2 (by first | exact c_72 | exact Int32.not_lt.mpr c_72)
        rw [eb]
        refine aw_iconst (pc' := 93) (v := 5) eX7_on_92 rfl (by decide) ?_
        refine aw_callv (pc' := 96) (nn := 2) (c_one (d := d - 1) hM9 b 5 (by omega) (by omega)) eX7_on_93 rfl ⟨q901, q904, q62⟩ q903 q22 ⟨rfl, by decide +kernel, by decide +kernel, by decide +kernel⟩ rfl (by rw [hM9.2.1]; exact ⟨rfl, rfl⟩) rfl ⟨by omega, by decide⟩ ⟨by omega, by omega⟩ rfl (Nat.le_of_ble_eq_true rfl) (fun v15 h16 hq17 => ?_)
        obtain ⟨rfl, rfl⟩ := hq17
        dsimp only [Option.toList, List.cons_append, List.nil_append]
        refine aw_istore_n (pc' := 97) eX7_on_96 rfl (by decide) ?_
        dsimp only [zst, zst2, zcut]
        refine aw_aload_n (pc' := 98) eX7_on_97 rfl rfl trivial ?_
        refine aw_Mref (pc' := 101) (kf := 1) 2 hM9 eX7_on_98 rfl (by decide) rfl q790 ?_
        refine aw_aload_n (pc' := 102) eX7_on_101 rfl rfl trivial ?_
        refine aw_Mref (pc' := 105) (kf := 0) 1 hM9 eX7_on_102 rfl (by decide) rfl q789 ?_
        refine aw_calls (pc' := 108) (nn := 2) (c_X7_move (d := d - 1) hM9 2 1 (by decide) (by decide) (by decide) (by omega)) eX7_on_105 rfl ⟨q879, q881, q62⟩ q880 ⟨by decide +kernel, by decide +kernel, by decide +kernel⟩ rfl ⟨by omega, by decide⟩ ⟨by omega, by omega⟩ rfl (Nat.le_of_ble_eq_true rfl) (fun v20 h21 hq22 => ?_)
        obtain ⟨rfl, hM18, hs19⟩ := hq22
        have hT23 := hT14.tr hs19
        dsimp only [Option.toList, List.cons_append, List.nil_append]
        refine aw_iload_n (pc' := 109) eX7_on_108 rfl rfl ?_
        refine aw_ret (v := some (.int _)) eX7_on_109 ⟨rfl, rfl⟩ (by omega) (by omega) rfl ?_
        have kz := hk.tri hn k2
        have eV : sOn (mRd U) g m t (nI x) w = sOnV (sDys (mRd U) m x t g) m w := by rw [sOn, if_pos hw, if_pos c35, clx]
        rw [mRd_K (hk.m2 hn)] at k2
        exact ⟨by rw [eV]; rw [sOnV, if_neg c_58, if_neg (by first | exact c_72 | exact Int32.not_lt.mpr c_72), eb, nI_clamp (by omega), k2.1], _, hM18, kz, (hs.tr hT23)⟩
      · refine aw_aload_n (pc' := 76) eX7_on_75 rfl rfl trivial ?_
        refine aw_iload_n (pc' := 77) eX7_on_76 rfl rfl ?_
        refine aw_bipush (pc' := 79) (v := 10) eX7_on_77 rfl (by decide) ?_
        refine aw_isub (pc' := 80) eX7_on_79 rfl ?_
        obtain ⟨b, hb, eb⟩ := (on_lt hm6 hw c_58).1 (by first | exact c_72 | exact Int32.not_le.mp c_72)
        rw [eb]
        refine aw_iconst (pc' := 81) (v := 3) eX7_on_80 rfl (by decide) ?_
        refine aw_callv (pc' := 84) (nn := 2) (c_one (d := d - 1) hM9 b 3 (by omega) (by omega)) eX7_on_81 rfl ⟨q901, q904, q62⟩ q903 q22 ⟨rfl, by decide +kernel, by decide +kernel, by decide +kernel⟩ rfl (by rw [hM9.2.1]; exact ⟨rfl, rfl⟩) rfl ⟨by omega, by decide⟩ ⟨by omega, by omega⟩ rfl (Nat.le_of_ble_eq_true rfl) (fun v24 h25 hq26 => ?_)
        obtain ⟨rfl, rfl⟩ := hq26
        dsimp only [Option.toList, List.cons_append, List.nil_append]
        refine aw_goto eX7_on_84 (by decide) (tgt := 96) ?_
        refine aw_istore_n (pc' := 97) eX7_on_96 rfl (by decide) ?_
        dsimp only [zst, zst2, zcut]
        refine aw_aload_n (pc' := 98) eX7_on_97 rfl rfl trivial ?_
        refine aw_Mref (pc' := 101) (kf := 1) 2 hM9 eX7_on_98 rfl (by decide) rfl q790 ?_
        refine aw_aload_n (pc' := 102) eX7_on_101 rfl rfl trivial ?_
        refine aw_Mref (pc' := 105) (kf := 0) 1 hM9 eX7_on_102 rfl (by decide) rfl q789 ?_
        refine aw_calls (pc' := 108) (nn := 2) (c_X7_move (d := d - 1) hM9 2 1 (by decide) (by decide) (by decide) (by omega)) eX7_on_105 rfl ⟨q879, q881, q62⟩ q880 ⟨by decide +kernel, by decide +kernel, by decide +kernel⟩ rfl ⟨by omega, by decide⟩ ⟨by omega, by omega⟩ rfl (Nat.le_of_ble_eq_true rfl) (fun v29 h30 hq31 => ?_)
        obtain ⟨rfl, hM27, hs28⟩ := hq31
        have hT32 := hT14.tr hs28
        dsimp only [Option.toList, List.cons_append, List.nil_append]
        refine aw_iload_n (pc' := 109) eX7_on_108 rfl rfl ?_
        refine aw_ret (v := some (.int _)) eX7_on_109 ⟨rfl, rfl⟩ (by omega) (by omega) rfl ?_
        have kz := hk.tri hn k2
        have eV : sOn (mRd U) g m t (nI x) w = sOnV (sDys (mRd U) m x t g) m w := by rw [sOn, if_pos hw, if_pos c35, clx]
        rw [mRd_K (hk.m2 hn)] at k2
        exact ⟨by rw [eV]; rw [sOnV, if_neg c_58, if_pos (by first | exact c_72 | exact Int32.not_le.mp c_72), eb, nI_clamp (by omega), k2.1], _, hM27, kz, (hs.tr hT32)⟩
    · refine aw_aload_n (pc' := 62) eX7_on_61 rfl rfl trivial ?_
      refine aw_iconst (pc' := 63) (v := 4) eX7_on_62 rfl (by decide) ?_
      refine aw_callv (pc' := 66) (nn := 1) (c_X7_howMany (d := d - 1) hM9 (show mOk V m from ⟨by rw [k2.1, sDys_hi hm6 (by omega) (by decide) (by decide)]; exact hm, hm6⟩) 4 (by omega)) eX7_on_63 rfl ⟨q1005, q1008, q62⟩ q1007 q46 ⟨rfl, by decide +kernel, by decide +kernel, by decide +kernel⟩ rfl (by rw [hM9.2.1]; exact ⟨rfl, rfl⟩) rfl ⟨by omega, by decide⟩ ⟨by omega, by omega⟩ rfl (Nat.le_of_ble_eq_true rfl) (fun v33 h34 hq35 => ?_)
      obtain ⟨rfl, rfl⟩ := hq35
      dsimp only [Option.toList, List.cons_append, List.nil_append]
      refine aw_goto eX7_on_66 (by decide) (tgt := 96) ?_
      refine aw_istore_n (pc' := 97) eX7_on_96 rfl (by decide) ?_
      dsimp only [zst, zst2, zcut]
      refine aw_aload_n (pc' := 98) eX7_on_97 rfl rfl trivial ?_
      refine aw_Mref (pc' := 101) (kf := 1) 2 hM9 eX7_on_98 rfl (by decide) rfl q790 ?_
      refine aw_aload_n (pc' := 102) eX7_on_101 rfl rfl trivial ?_
      refine aw_Mref (pc' := 105) (kf := 0) 1 hM9 eX7_on_102 rfl (by decide) rfl q789 ?_
      refine aw_calls (pc' := 108) (nn := 2) (c_X7_move (d := d - 1) hM9 2 1 (by decide) (by decide) (by decide) (by omega)) eX7_on_105 rfl ⟨q879, q881, q62⟩ q880 ⟨by decide +kernel, by decide +kernel, by decide +kernel⟩ rfl ⟨by omega, by decide⟩ ⟨by omega, by omega⟩ rfl (Nat.le_of_ble_eq_true rfl) (fun v38 h39 hq40 => ?_)
      obtain ⟨rfl, hM36, hs37⟩ := hq40
      have hT41 := hT14.tr hs37
      dsimp only [Option.toList, List.cons_append, List.nil_append]
      refine aw_iload_n (pc' := 109) eX7_on_108 rfl rfl ?_
      refine aw_ret (v := some (.int _)) eX7_on_109 ⟨rfl, rfl⟩ (by omega) (by omega) rfl ?_
      have kz := hk.tri hn k2
      have eV : sOn (mRd U) g m t (nI x) w = sOnV (sDys (mRd U) m x t g) m w := by rw [sOn, if_pos hw, if_pos c35, clx]
      rw [mRd_K (hk.m2 hn)] at k2
      exact ⟨by rw [eV]; rw [sOnV, if_pos (by first | exact c_58 | exact Decidable.not_not.mp c_58), k2.1], _, hM36, kz, (hs.tr hT41)⟩
  · refine aw_bipush (pc' := 40) (v := -2) eX7_on_38 rfl (by decide) ?_
    refine aw_ret (v := some (.int _)) eX7_on_40 ⟨rfl, rfl⟩ (by omega) (by omega) rfl ?_
    simp only [zb_eq0, Bool.not_eq_false, Bool.not_eq_true, decide_eq_true_eq, decide_eq_false_iff_not, Decidable.not_not] at c_35
    exact ⟨by rw [sOn, if_pos hw, if_neg (by rw [c_35]; decide)], _, hM, hk, hs⟩
theorem c_X7_on (hk : MK n g U U1) (hM : MAt h u U1) (hz : mZ U) (hg : gOk g m t) (hn : 1 ≤ n) (ht6 : t ≤ 1000000000) (x w : Int32) (hd : 26 ≤ d) : Ct l G mX7_on yX7_on d 0 0 [.ref u, .int x, .int w] h (fun r h' => r = some (.int (sOn (mRd U) g m t x w)) ∧ ∃ U', MAt h' u U' ∧ MK n g U U' ∧ Same u 19 h h') := by
  refine ct_of (lv := [some (.ref u), some (.int x), some (.int w), none]) (by decide +kernel) rfl (fun z => by cases z) (fun _ => rfl) (fun _ => Nat.le_of_ble_eq_true rfl) ?_
  have hgg := hg
  obtain ⟨hm, hm6, ht, ht2, hgq⟩ := hgg
  refine aw_iload_n (pc' := 1) eX7_on_0 rfl rfl ?_
  refine aw_if_eq (pc' := 4) (tgt := 28) eX7_on_1 rfl (by decide) (fun c_1 => ?_) (fun c_1 => ?_)
  · exact tl_X7_on hk hM hz hg hn ht6 (Or.inl (by first | exact c_1 | exact Decidable.not_not.mp c_1)) Same.rf hd
  · refine aw_aload_n (pc' := 5) eX7_on_4 rfl rfl trivial ?_
    refine aw_iload_n (pc' := 6) eX7_on_5 rfl rfl ?_
    refine aw_bipush (pc' := 8) (v := 10) eX7_on_6 rfl (by decide) ?_
    refine aw_isub (pc' := 9) eX7_on_8 rfl ?_
    refine aw_callv (pc' := 12) (nn := 1) (c_X7_isOne (d := d - 1) hM _ (by omega)) eX7_on_9 rfl ⟨q897, q900, q62⟩ q899 q21 ⟨rfl, by decide +kernel, by decide +kernel, by decide +kernel⟩ rfl (by rw [hM.2.1]; exact ⟨rfl, rfl⟩) rfl ⟨by omega, by decide⟩ ⟨by omega, by omega⟩ rfl (Nat.le_of_ble_eq_true rfl) (fun v1 h2 hq3 => ?_)
    obtain ⟨rfl, rfl⟩ := hq3
    dsimp only [Option.toList, List.cons_append, List.nil_append]
    refine aw_if_ne (pc' := 15) (tgt := 28) eX7_on_12 rfl (by decide) (fun c_12 => ?_) (fun c_12 => ?_)
    · exact tl_X7_on hk hM hz hg hn ht6 (Or.inr (Or.inl (by rw [hk.1, hm] at c_12; exact zb_ne0.mp c_12))) Same.rf hd
    · refine aw_aload_n (pc' := 16) eX7_on_15 rfl rfl trivial ?_
      refine aw_iload_n (pc' := 17) eX7_on_16 rfl rfl ?_
      refine aw_bipush (pc' := 19) (v := 20) eX7_on_17 rfl (by decide) ?_
      refine aw_isub (pc' := 20) eX7_on_19 rfl ?_
      refine aw_callv (pc' := 23) (nn := 1) (c_X7_isOne (d := d - 1) hM _ (by omega)) eX7_on_20 rfl ⟨q897, q900, q62⟩ q899 q21 ⟨rfl, by decide +kernel, by decide +kernel, by decide +kernel⟩ rfl (by rw [hM.2.1]; exact ⟨rfl, rfl⟩) rfl ⟨by omega, by decide⟩ ⟨by omega, by omega⟩ rfl (Nat.le_of_ble_eq_true rfl) (fun v4 h5 hq6 => ?_)
      obtain ⟨rfl, rfl⟩ := hq6
      dsimp only [Option.toList, List.cons_append, List.nil_append]
      refine aw_if_ne (pc' := 26) (tgt := 28) eX7_on_23 rfl (by decide) (fun c_23 => ?_) (fun c_23 => ?_)
      · exact tl_X7_on hk hM hz hg hn ht6 (Or.inr (Or.inr (by rw [hk.1, hm] at c_23; exact zb_ne0.mp c_23))) Same.rf hd
      · refine aw_iconst (pc' := 27) (v := -1) eX7_on_26 rfl (by decide) ?_
        refine aw_ret (v := some (.int _)) eX7_on_27 ⟨rfl, rfl⟩ (by omega) (by omega) rfl ?_
        simp only [zb_eq0, Bool.not_eq_false, Bool.not_eq_true, decide_eq_true_eq, decide_eq_false_iff_not, Decidable.not_not, hk.1, hm] at c_12 c_23
        exact ⟨by rw [sOn, if_neg (by rintro (z | z | z); exact c_1 z; rw [c_12] at z; exact absurd z (by decide); rw [c_23] at z; exact absurd z (by decide))], _, hM, hk, Same.rf⟩
theorem upd_upd (g : Nat → Int32) (k : Nat) (x y : Int32) : upd (upd g k x) k y = upd g k y := by
  funext j
  simp only [upd_if]
  split <;> rfl
def sBeg (F : FT) (g : Nat → Int32) (m t : Nat) (x : Int32) : Nat → Int32 × Int32
  | 0 => (0, -1)
  | p + 1 => (if (sBeg F g m t x p).2 < sOn F (upd g 62 (nI p)) m t x 0 then nI p else (sBeg F g m t x p).1, if sOn F (upd g 62 (nI p)) m t x 0 < (sBeg F g m t x p).2 then (sBeg F g m t x p).2 else sOn F (upd g 62 (nI p)) m t x 0)
def sBegin (F : FT) (g : Nat → Int32) (m t : Nat) (x w : Int32) : Int32 := if bIn w 0 1 = true then if bIn x 1 20 = true then if w = 0 then (sBeg F g m t x 12).1 else (sBeg F g m t x 12).2 else -2 else -1
theorem u62_ok {x : Int32} (hg : gOk g m t) : gOk (upd g 62 x) m t := gOk_of hg (upd_ne (by decide)) (upd_ne (by decide)) (upd_ne (by decide))
abbrev mX7_begin : MT := (RX7, cX7_begin, 8, (some .int), false)
theorem eX7_begin_0 : decode mX7_begin.2.1 0 = .ok (.iload_n 2, 1) := by decide +kernel
theorem eX7_begin_1 : decode mX7_begin.2.1 1 = .ok (.iconst 0, 1) := by decide +kernel
theorem eX7_begin_2 : decode mX7_begin.2.1 2 = .ok (.iconst 1, 1) := by decide +kernel
theorem eX7_begin_3 : decode mX7_begin.2.1 3 = .ok (.invokestatic 80, 3) := by decide +kernel
theorem eX7_begin_6 : decode mX7_begin.2.1 6 = .ok (.ifCond .ne 5, 3) := by decide +kernel
theorem eX7_begin_9 : decode mX7_begin.2.1 9 = .ok (.iconst (-1), 1) := by decide +kernel
theorem eX7_begin_10 : decode mX7_begin.2.1 10 = .ok (.ireturn, 1) := by decide +kernel
theorem eX7_begin_11 : decode mX7_begin.2.1 11 = .ok (.iload_n 1, 1) := by decide +kernel
theorem eX7_begin_12 : decode mX7_begin.2.1 12 = .ok (.iconst 1, 1) := by decide +kernel
theorem eX7_begin_13 : decode mX7_begin.2.1 13 = .ok (.bipush 20, 2) := by decide +kernel
theorem eX7_begin_15 : decode mX7_begin.2.1 15 = .ok (.invokestatic 80, 3) := by decide +kernel
theorem eX7_begin_18 : decode mX7_begin.2.1 18 = .ok (.ifCond .ne 6, 3) := by decide +kernel
theorem eX7_begin_21 : decode mX7_begin.2.1 21 = .ok (.bipush (-2), 2) := by decide +kernel
theorem eX7_begin_23 : decode mX7_begin.2.1 23 = .ok (.ireturn, 1) := by decide +kernel
theorem eX7_begin_24 : decode mX7_begin.2.1 24 = .ok (.aload_n 0, 1) := by decide +kernel
theorem eX7_begin_25 : decode mX7_begin.2.1 25 = .ok (.getfield 15, 3) := by decide +kernel
theorem eX7_begin_28 : decode mX7_begin.2.1 28 = .ok (.bipush 62, 2) := by decide +kernel
theorem eX7_begin_30 : decode mX7_begin.2.1 30 = .ok (.iaload, 1) := by decide +kernel
theorem eX7_begin_31 : decode mX7_begin.2.1 31 = .ok (.istore_n 3, 1) := by decide +kernel
theorem eX7_begin_32 : decode mX7_begin.2.1 32 = .ok (.iconst 0, 1) := by decide +kernel
theorem eX7_begin_33 : decode mX7_begin.2.1 33 = .ok (.istore 4, 2) := by decide +kernel
theorem eX7_begin_35 : decode mX7_begin.2.1 35 = .ok (.iconst (-1), 1) := by decide +kernel
theorem eX7_begin_36 : decode mX7_begin.2.1 36 = .ok (.istore 5, 2) := by decide +kernel
theorem eX7_begin_38 : decode mX7_begin.2.1 38 = .ok (.iconst 0, 1) := by decide +kernel
theorem eX7_begin_39 : decode mX7_begin.2.1 39 = .ok (.istore 6, 2) := by decide +kernel
theorem eX7_begin_41 : decode mX7_begin.2.1 41 = .ok (.iload 6, 2) := by decide +kernel
theorem eX7_begin_43 : decode mX7_begin.2.1 43 = .ok (.bipush 12, 2) := by decide +kernel
theorem eX7_begin_45 : decode mX7_begin.2.1 45 = .ok (.if_icmp .ge 51, 3) := by decide +kernel
theorem eX7_begin_48 : decode mX7_begin.2.1 48 = .ok (.aload_n 0, 1) := by decide +kernel
theorem eX7_begin_49 : decode mX7_begin.2.1 49 = .ok (.getfield 15, 3) := by decide +kernel
theorem eX7_begin_52 : decode mX7_begin.2.1 52 = .ok (.bipush 62, 2) := by decide +kernel
theorem eX7_begin_54 : decode mX7_begin.2.1 54 = .ok (.iload 6, 2) := by decide +kernel
theorem eX7_begin_56 : decode mX7_begin.2.1 56 = .ok (.iastore, 1) := by decide +kernel
theorem eX7_begin_57 : decode mX7_begin.2.1 57 = .ok (.aload_n 0, 1) := by decide +kernel
theorem eX7_begin_58 : decode mX7_begin.2.1 58 = .ok (.iload_n 1, 1) := by decide +kernel
theorem eX7_begin_59 : decode mX7_begin.2.1 59 = .ok (.iconst 0, 1) := by decide +kernel
theorem eX7_begin_60 : decode mX7_begin.2.1 60 = .ok (.invokevirtual 212, 3) := by decide +kernel
theorem eX7_begin_63 : decode mX7_begin.2.1 63 = .ok (.istore 7, 2) := by decide +kernel
theorem eX7_begin_65 : decode mX7_begin.2.1 65 = .ok (.iload 7, 2) := by decide +kernel
theorem eX7_begin_67 : decode mX7_begin.2.1 67 = .ok (.iload 5, 2) := by decide +kernel
theorem eX7_begin_69 : decode mX7_begin.2.1 69 = .ok (.if_icmp .le 8, 3) := by decide +kernel
theorem eX7_begin_72 : decode mX7_begin.2.1 72 = .ok (.iload 6, 2) := by decide +kernel
theorem eX7_begin_74 : decode mX7_begin.2.1 74 = .ok (.goto 5, 3) := by decide +kernel
theorem eX7_begin_77 : decode mX7_begin.2.1 77 = .ok (.iload 4, 2) := by decide +kernel
theorem eX7_begin_79 : decode mX7_begin.2.1 79 = .ok (.istore 4, 2) := by decide +kernel
theorem eX7_begin_81 : decode mX7_begin.2.1 81 = .ok (.iload 7, 2) := by decide +kernel
theorem eX7_begin_83 : decode mX7_begin.2.1 83 = .ok (.iload 5, 2) := by decide +kernel
theorem eX7_begin_85 : decode mX7_begin.2.1 85 = .ok (.invokestatic 215, 3) := by decide +kernel
theorem eX7_begin_88 : decode mX7_begin.2.1 88 = .ok (.istore 5, 2) := by decide +kernel
theorem eX7_begin_90 : decode mX7_begin.2.1 90 = .ok (.iinc 6 1, 3) := by decide +kernel
theorem eX7_begin_93 : decode mX7_begin.2.1 93 = .ok (.goto (-52), 3) := by decide +kernel
theorem eX7_begin_96 : decode mX7_begin.2.1 96 = .ok (.aload_n 0, 1) := by decide +kernel
theorem eX7_begin_97 : decode mX7_begin.2.1 97 = .ok (.getfield 15, 3) := by decide +kernel
theorem eX7_begin_100 : decode mX7_begin.2.1 100 = .ok (.bipush 62, 2) := by decide +kernel
theorem eX7_begin_102 : decode mX7_begin.2.1 102 = .ok (.iload_n 3, 1) := by decide +kernel
theorem eX7_begin_103 : decode mX7_begin.2.1 103 = .ok (.iastore, 1) := by decide +kernel
theorem eX7_begin_104 : decode mX7_begin.2.1 104 = .ok (.iload_n 2, 1) := by decide +kernel
theorem eX7_begin_105 : decode mX7_begin.2.1 105 = .ok (.ifCond .ne 8, 3) := by decide +kernel
theorem eX7_begin_108 : decode mX7_begin.2.1 108 = .ok (.iload 4, 2) := by decide +kernel
theorem eX7_begin_110 : decode mX7_begin.2.1 110 = .ok (.goto 5, 3) := by decide +kernel
theorem eX7_begin_113 : decode mX7_begin.2.1 113 = .ok (.iload 5, 2) := by decide +kernel
theorem eX7_begin_115 : decode mX7_begin.2.1 115 = .ok (.ireturn, 1) := by decide +kernel
theorem lp_X7_begin (hz : mZ U) (hg : gOk g m t) (hn : 1 ≤ n) {x : Int32} {o2 : Option Value} {wa : Int32} (ht6 : t ≤ 1000000000) (hd : 27 ≤ d) {h0 : Hp} (hQ : ∀ h' U' g' y' o7, MAt h' u U' → MK n g' U U' → Same u 19 h0 h' → (∀ y, upd g' 62 y = upd g 62 y) → AW l G mX7_begin d 0 0 Q 0 0 h' [some (.ref u), some (.int x), o2, some (.int wa), some (.int (sBeg (mRd U) g m t x 12).1), some (.int (sBeg (mRd U) g m t x 12).2), some (.int y'), o7] [] 96) : ∀ (j p : Nat) (y b e : Int32) (o7 : Option Value) (h : Hp) (g' : Nat → Int32) (U1 : MS), j = 12 - p → p ≤ 12 → y = nI p → b = (sBeg (mRd U) g m t x p).1 → e = (sBeg (mRd U) g m t x p).2 → MK n g' U U1 → (∀ y, upd g' 62 y = upd g 62 y) → MAt h u U1 → Same u 19 h0 h → AW l G mX7_begin d 0 0 Q 0 0 h [some (.ref u), some (.int x), o2, some (.int wa), some (.int b), some (.int e), some (.int y), o7] [] 41 := by
  intro j
  induction j using Nat.strongRecOn with
  | _ j ih =>
    intro p y b e o7 h g' U1 hj hp hy hb he hk hgs hM hs
    subst hy hb he
    refine aw_iload (pc' := 43) eX7_begin_41 rfl rfl ?_
    refine aw_bipush (pc' := 45) (v := 12) eX7_begin_43 rfl (by decide) ?_
    refine aw_icmp_ge (pc' := 48) (tgt := 96) eX7_begin_45 rfl (by decide) (fun c_45 => ?_) (fun c_45 => ?_)
    · have c9 := ge_nI (b := 12) (by omega) (by omega) c_45
      obtain rfl : p = 12 := by omega
      exact hQ _ _ _ _ _ hM hk hs hgs
    · have c9 := nge_nI (b := 12) (by omega) (by omega) c_45
      refine aw_aload_n (pc' := 49) eX7_begin_48 rfl rfl trivial ?_
      refine aw_Mref (pc' := 52) (kf := 0) 1 hM eX7_begin_49 rfl (by decide) rfl q789 ?_
      refine aw_bipush (pc' := 54) (v := 62) eX7_begin_52 rfl (by decide) ?_
      refine aw_iload (pc' := 56) eX7_begin_54 rfl rfl ?_
      refine aw_MastC (pc' := 57) 1 62 hM eX7_begin_56 rfl (by decide) (by unfold vp_in; decide) (by decide) (fun h3 hM1 hs2 => ?_)
      have kc : MK n (upd g 62 (nI p)) U (mup U1 1 62 (nI p)) := by rw [← hgs]; exact hk.up
      refine aw_aload_n (pc' := 58) eX7_begin_57 rfl rfl trivial ?_
      refine aw_iload_n (pc' := 59) eX7_begin_58 rfl rfl ?_
      refine aw_iconst (pc' := 60) (v := 0) eX7_begin_59 rfl (by decide) ?_
      refine aw_callv (pc' := 63) (nn := 2) (c_X7_on (d := d - 1) kc hM1 hz (u62_ok hg) (n := n) (by omega) (by omega) x 0 (by omega)) eX7_begin_60 rfl ⟨q1060, q1055, q62⟩ q1053 q1054 ⟨rfl, by decide +kernel, by decide +kernel, by decide +kernel⟩ rfl (by rw [hM1.2.1]; exact ⟨rfl, rfl⟩) rfl ⟨by omega, by decide⟩ ⟨by omega, by omega⟩ rfl (Nat.le_of_ble_eq_true rfl) (fun v8 h9 hq10 => ?_)
      obtain ⟨rfl, V6, hM4, k7, hs5⟩ := hq10
      have hT11 := hs2.tr hs5
      dsimp only [Option.toList, List.cons_append, List.nil_append]
      refine aw_istore (pc' := 65) eX7_begin_63 rfl (by decide) ?_
      dsimp only [zst, zst2, zcut]
      refine aw_iload (pc' := 67) eX7_begin_65 rfl rfl ?_
      refine aw_iload (pc' := 69) eX7_begin_67 rfl rfl ?_
      refine aw_icmp_le (pc' := 72) (tgt := 77) eX7_begin_69 rfl (by decide) (fun c_69 => ?_) (fun c_69 => ?_)
      · refine aw_iload (pc' := 79) eX7_begin_77 rfl rfl ?_
        refine aw_istore (pc' := 81) eX7_begin_79 rfl (by decide) ?_
        dsimp only [zst, zst2, zcut]
        refine aw_iload (pc' := 83) eX7_begin_81 rfl rfl ?_
        refine aw_iload (pc' := 85) eX7_begin_83 rfl rfl ?_
        refine aw_mmax (pc' := 88) eX7_begin_85 rfl q1061 q509 q63 q510 (by omega) ⟨by omega, by omega⟩ (Nat.le_of_ble_eq_true rfl) ?_
        refine aw_istore (pc' := 90) eX7_begin_88 rfl (by decide) ?_
        dsimp only [zst, zst2, zcut]
        refine aw_iinc (pc' := 93) eX7_begin_90 rfl rfl rfl (by decide) ?_
        dsimp only [zst, zst2, zcut]
        refine aw_goto eX7_begin_93 (by decide) (tgt := 41) ?_
        exact ih (12 - (p + 1)) (by omega) (p + 1) _ _ _ _ _ _ _ rfl (by omega) (nI_inc p) (by rw [sBeg]; exact (if_neg (by first | exact c_69 | exact Int32.not_lt.mpr c_69)).symm) (by rw [sBeg]) k7 (fun y => upd_upd g 62 _ y) hM4 (hs.tr hT11)
      · refine aw_iload (pc' := 74) eX7_begin_72 rfl rfl ?_
        refine aw_goto eX7_begin_74 (by decide) (tgt := 79) ?_
        refine aw_istore (pc' := 81) eX7_begin_79 rfl (by decide) ?_
        dsimp only [zst, zst2, zcut]
        refine aw_iload (pc' := 83) eX7_begin_81 rfl rfl ?_
        refine aw_iload (pc' := 85) eX7_begin_83 rfl rfl ?_
        refine aw_mmax (pc' := 88) eX7_begin_85 rfl q1061 q509 q63 q510 (by omega) ⟨by omega, by omega⟩ (Nat.le_of_ble_eq_true rfl) ?_
        refine aw_istore (pc' := 90) eX7_begin_88 rfl (by decide) ?_
        dsimp only [zst, zst2, zcut]
        refine aw_iinc (pc' := 93) eX7_begin_90 rfl rfl rfl (by decide) ?_
        dsimp only [zst, zst2, zcut]
        refine aw_goto eX7_begin_93 (by decide) (tgt := 41) ?_
        exact ih (12 - (p + 1)) (by omega) (p + 1) _ _ _ _ _ _ _ rfl (by omega) (nI_inc p) (by rw [sBeg]; exact (if_pos (by first | exact c_69 | exact Int32.not_le.mp c_69)).symm) (by rw [sBeg]) k7 (fun y => upd_upd g 62 _ y) hM4 (hs.tr hT11)
theorem c_X7_begin (hk : MK n g U U1) (hM : MAt h u U1) (hz : mZ U) (hg : gOk g m t) (hn : 1 ≤ n) (ht6 : t ≤ 1000000000) (x w : Int32) (hd : 27 ≤ d) : Ct l G mX7_begin yX7_begin d 0 0 [.ref u, .int x, .int w] h (fun r h' => r = some (.int (sBegin (mRd U) g m t x w)) ∧ ∃ U', MAt h' u U' ∧ MK n g U U' ∧ Same u 19 h h') := by
  refine ct_of (lv := [some (.ref u), some (.int x), some (.int w), none, none, none, none, none]) (by decide +kernel) rfl (fun z => by cases z) (fun _ => rfl) (fun _ => Nat.le_of_ble_eq_true rfl) ?_
  have hgg := hg
  obtain ⟨hm, hm6, ht, ht2, hgq⟩ := hgg
  refine aw_iload_n (pc' := 1) eX7_begin_0 rfl rfl ?_
  refine aw_iconst (pc' := 2) (v := 0) eX7_begin_1 rfl (by decide) ?_
  refine aw_iconst (pc' := 3) (v := 1) eX7_begin_2 rfl (by decide) ?_
  refine aw_calls (pc' := 6) (nn := 3) (c_X7_isIn (d := d - 1) _ _ _ (by omega)) eX7_begin_3 rfl ⟨q890, q892, q62⟩ q891 ⟨by decide +kernel, by decide +kernel, by decide +kernel⟩ rfl ⟨by omega, by decide⟩ ⟨by omega, by omega⟩ rfl (Nat.le_of_ble_eq_true rfl) (fun v1 h2 hq3 => ?_)
  obtain ⟨rfl, rfl⟩ := hq3
  dsimp only [Option.toList, List.cons_append, List.nil_append]
  refine aw_if_ne (pc' := 9) (tgt := 11) eX7_begin_6 rfl (by decide) (fun c_6 => ?_) (fun c_6 => ?_)
  · simp only [zb_eq0, Bool.not_eq_false, Bool.not_eq_true, decide_eq_true_eq, decide_eq_false_iff_not, Decidable.not_not] at c_6
    refine aw_iload_n (pc' := 12) eX7_begin_11 rfl rfl ?_
    refine aw_iconst (pc' := 13) (v := 1) eX7_begin_12 rfl (by decide) ?_
    refine aw_bipush (pc' := 15) (v := 20) eX7_begin_13 rfl (by decide) ?_
    refine aw_calls (pc' := 18) (nn := 3) (c_X7_isIn (d := d - 1) _ _ _ (by omega)) eX7_begin_15 rfl ⟨q890, q892, q62⟩ q891 ⟨by decide +kernel, by decide +kernel, by decide +kernel⟩ rfl ⟨by omega, by decide⟩ ⟨by omega, by omega⟩ rfl (Nat.le_of_ble_eq_true rfl) (fun v4 h5 hq6 => ?_)
    obtain ⟨rfl, rfl⟩ := hq6
    dsimp only [Option.toList, List.cons_append, List.nil_append]
    refine aw_if_ne (pc' := 21) (tgt := 24) eX7_begin_18 rfl (by decide) (fun c_18 => ?_) (fun c_18 => ?_)
    · simp only [zb_eq0, Bool.not_eq_false, Bool.not_eq_true, decide_eq_true_eq, decide_eq_false_iff_not, Decidable.not_not] at c_18
      refine aw_aload_n (pc' := 25) eX7_begin_24 rfl rfl trivial ?_
      refine aw_Mref (pc' := 28) (kf := 0) 1 hM eX7_begin_25 rfl (by decide) rfl q789 ?_
      refine aw_bipush (pc' := 30) (v := 62) eX7_begin_28 rfl (by decide) ?_
      refine aw_MaldC (pc' := 31) 1 62 hM eX7_begin_30 rfl (by decide) (by unfold vp_in; decide) (by decide) ?_
      refine aw_istore_n (pc' := 32) eX7_begin_31 rfl (by decide) ?_
      dsimp only [zst, zst2, zcut]
      refine aw_iconst (pc' := 33) (v := 0) eX7_begin_32 rfl (by decide) ?_
      refine aw_istore (pc' := 35) eX7_begin_33 rfl (by decide) ?_
      dsimp only [zst, zst2, zcut]
      refine aw_iconst (pc' := 36) (v := -1) eX7_begin_35 rfl (by decide) ?_
      refine aw_istore (pc' := 38) eX7_begin_36 rfl (by decide) ?_
      dsimp only [zst, zst2, zcut]
      refine aw_iconst (pc' := 39) (v := 0) eX7_begin_38 rfl (by decide) ?_
      refine aw_istore (pc' := 41) eX7_begin_39 rfl (by decide) ?_
      dsimp only [zst, zst2, zcut]
      refine lp_X7_begin (n := n) (U := U) (g := g) hz hg hn ht6 hd (fun h9 V9 g9 y9 o9 m9 k9 s9 hg9 => ?_) 12 0 _ _ _ _ _ _ _ (by omega) (by omega) rfl rfl rfl hk (fun _ => rfl) hM Same.rf
      refine aw_aload_n (pc' := 97) eX7_begin_96 rfl rfl trivial ?_
      refine aw_Mref (pc' := 100) (kf := 0) 1 m9 eX7_begin_97 rfl (by decide) rfl q789 ?_
      refine aw_bipush (pc' := 102) (v := 62) eX7_begin_100 rfl (by decide) ?_
      refine aw_iload_n (pc' := 103) eX7_begin_102 rfl rfl ?_
      refine aw_MastC (pc' := 104) 1 62 m9 eX7_begin_103 rfl (by decide) (by unfold vp_in; decide) (by decide) (fun h3 hM1 hs2 => ?_)
      have hT4 := s9.tr hs2
      have kz : MK n g U (mup V9 1 62 (U1.1 1 62)) := by
        have z := k9.up (k := 62) (x := U1.1 1 62)
        rw [hg9, hk.1, mg_id'] at z
        rw [hk.1]
        exact z
      refine aw_iload_n (pc' := 105) eX7_begin_104 rfl rfl ?_
      refine aw_if_ne (pc' := 108) (tgt := 113) eX7_begin_105 rfl (by decide) (fun c_105 => ?_) (fun c_105 => ?_)
      · refine aw_iload (pc' := 115) eX7_begin_113 rfl rfl ?_
        refine aw_ret (v := some (.int _)) eX7_begin_115 ⟨rfl, rfl⟩ (by omega) (by omega) rfl ?_
        exact ⟨by rw [sBegin, if_pos c_6, if_pos c_18]; exact congrArg (fun v => some (Value.int v)) (if_neg c_105).symm, _, hM1, kz, hT4⟩
      · refine aw_iload (pc' := 110) eX7_begin_108 rfl rfl ?_
        refine aw_goto eX7_begin_110 (by decide) (tgt := 115) ?_
        refine aw_ret (v := some (.int _)) eX7_begin_115 ⟨rfl, rfl⟩ (by omega) (by omega) rfl ?_
        exact ⟨by rw [sBegin, if_pos c_6, if_pos c_18]; exact congrArg (fun v => some (Value.int v)) (if_pos (by first | exact c_105 | exact Decidable.not_not.mp c_105)).symm, _, hM1, kz, hT4⟩
    · refine aw_bipush (pc' := 23) (v := -2) eX7_begin_21 rfl (by decide) ?_
      refine aw_ret (v := some (.int _)) eX7_begin_23 ⟨rfl, rfl⟩ (by omega) (by omega) rfl ?_
      simp only [zb_eq0, Bool.not_eq_false, Bool.not_eq_true, decide_eq_true_eq, decide_eq_false_iff_not, Decidable.not_not] at c_18
      exact ⟨by rw [sBegin, if_pos c_6, if_neg (by rw [c_18]; decide)], _, hM, hk, Same.rf⟩
  · refine aw_iconst (pc' := 10) (v := -1) eX7_begin_9 rfl (by decide) ?_
    refine aw_ret (v := some (.int _)) eX7_begin_10 ⟨rfl, rfl⟩ (by omega) (by omega) rfl ?_
    simp only [zb_eq0, Bool.not_eq_false, Bool.not_eq_true, decide_eq_true_eq, decide_eq_false_iff_not, Decidable.not_not] at c_6
    exact ⟨by rw [sBegin, if_neg (by rw [c_6]; decide)], _, hM, hk, Same.rf⟩
end M19
