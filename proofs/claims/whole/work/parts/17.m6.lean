/-! the model's tapes -/
section M6
variable {l : Launch} {G : GT} {d u : Nat} {h : Hp} {U : MS} {Q : Option Value → Hp → Prop}
/-- the tapes: sorts, lengths, items -/
def mT (U : MS) : Prop := ∀ t, t < 6 → (∃ n, n ≤ 60 ∧ U.1 16 t = nI n) ∧ (U.1 15 t = -1 ∨ ∃ s, s < 5 ∧ U.1 15 t = nI s)
theorem ix60 {t i : Nat} (h : 60 * t + i < 360) : (60 * nI t + nI i).toNatClampNeg = 60 * t + i ∧ vp_in (60 * nI t + nI i) 360 := by
  have e : 60 * nI t + nI i = nI (60 * t + i) := nI_muladd 60 t i
  rw [e]
  exact ⟨nI_clamp (by omega), vp_in_nI h (by omega)⟩

def sRead (U : MS) (t i : Int32) : Int64 := if bIn t 0 5 = true ∧ bIn i 0 (U.1 16 t.toNatClampNeg - 1) = true then U.2.2 17 (60 * t.toNatClampNeg + i.toNatClampNeg) else -9223372036854775808
abbrev mX7_read : MT := (RX7, cX7_read, 3, (some .long), false)
theorem eX7_read_0 : decode mX7_read.2.1 0 = .ok (.iload_n 1, 1) := by decide +kernel
theorem eX7_read_1 : decode mX7_read.2.1 1 = .ok (.invokestatic 249, 3) := by decide +kernel
theorem eX7_read_4 : decode mX7_read.2.1 4 = .ok (.ifCond .eq 33, 3) := by decide +kernel
theorem eX7_read_7 : decode mX7_read.2.1 7 = .ok (.iload_n 2, 1) := by decide +kernel
theorem eX7_read_8 : decode mX7_read.2.1 8 = .ok (.iconst 0, 1) := by decide +kernel
theorem eX7_read_9 : decode mX7_read.2.1 9 = .ok (.aload_n 0, 1) := by decide +kernel
theorem eX7_read_10 : decode mX7_read.2.1 10 = .ok (.getfield 62, 3) := by decide +kernel
theorem eX7_read_13 : decode mX7_read.2.1 13 = .ok (.iload_n 1, 1) := by decide +kernel
theorem eX7_read_14 : decode mX7_read.2.1 14 = .ok (.iaload, 1) := by decide +kernel
theorem eX7_read_15 : decode mX7_read.2.1 15 = .ok (.iconst 1, 1) := by decide +kernel
theorem eX7_read_16 : decode mX7_read.2.1 16 = .ok (.isub, 1) := by decide +kernel
theorem eX7_read_17 : decode mX7_read.2.1 17 = .ok (.invokestatic 80, 3) := by decide +kernel
theorem eX7_read_20 : decode mX7_read.2.1 20 = .ok (.ifCond .eq 17, 3) := by decide +kernel
theorem eX7_read_23 : decode mX7_read.2.1 23 = .ok (.aload_n 0, 1) := by decide +kernel
theorem eX7_read_24 : decode mX7_read.2.1 24 = .ok (.getfield 65, 3) := by decide +kernel
theorem eX7_read_27 : decode mX7_read.2.1 27 = .ok (.bipush 60, 2) := by decide +kernel
theorem eX7_read_29 : decode mX7_read.2.1 29 = .ok (.iload_n 1, 1) := by decide +kernel
theorem eX7_read_30 : decode mX7_read.2.1 30 = .ok (.imul, 1) := by decide +kernel
theorem eX7_read_31 : decode mX7_read.2.1 31 = .ok (.iload_n 2, 1) := by decide +kernel
theorem eX7_read_32 : decode mX7_read.2.1 32 = .ok (.iadd, 1) := by decide +kernel
theorem eX7_read_33 : decode mX7_read.2.1 33 = .ok (.laload, 1) := by decide +kernel
theorem eX7_read_34 : decode mX7_read.2.1 34 = .ok (.goto 6, 3) := by decide +kernel
theorem eX7_read_37 : decode mX7_read.2.1 37 = .ok (.ldc2_w 228, 3) := by decide +kernel
theorem eX7_read_40 : decode mX7_read.2.1 40 = .ok (.lreturn, 1) := by decide +kernel
theorem c_X7_read (hM : MAt h u U) (hT : mT U) (t i : Int32) (hd : 2 ≤ d) : Ct l G mX7_read yX7_read d 0 0 [.ref u, .int t, .int i] h (fun r h' => r = some (.long (sRead U t i)) ∧ h' = h) := by
  refine ct_of (lv := [some (.ref u), some (.int t), some (.int i)]) (by decide +kernel) rfl (fun z => by cases z) (fun _ => rfl) (fun _ => Nat.le_of_ble_eq_true rfl) ?_
  refine aw_iload_n (pc' := 1) eX7_read_0 rfl rfl ?_
  refine aw_calls (pc' := 4) (nn := 1) (c_X7_isTape (d := d - 1) _ (by omega)) eX7_read_1 rfl ⟨q1146, q1148, q62⟩ q1147 ⟨by decide +kernel, by decide +kernel, by decide +kernel⟩ rfl ⟨by omega, by decide⟩ ⟨by omega, by omega⟩ rfl (Nat.le_of_ble_eq_true rfl) (fun v1 h2 hq3 => ?_)
  obtain ⟨rfl, rfl⟩ := hq3
  dsimp only [Option.toList, List.cons_append, List.nil_append]
  refine aw_if_eq (pc' := 7) (tgt := 37) eX7_read_4 rfl (by decide) (fun c_4 => ?_) (fun c_4 => ?_)
  · refine aw_ldc2 (pc' := 40) eX7_read_37 rfl q1086 ?_
    refine aw_ret (v := some (.long _)) eX7_read_40 ⟨rfl, rfl⟩ (by omega) (by omega) rfl ?_
    try simp only [zb_eq0, Bool.not_eq_false, Bool.not_eq_true, decide_eq_true_eq, decide_eq_false_iff_not, Decidable.not_not] at c_4
    exact ⟨by simp [sRead, c_4], rfl⟩
  · simp only [zb_eq0, Bool.not_eq_false, Bool.not_eq_true, decide_eq_true_eq, decide_eq_false_iff_not, Decidable.not_not] at c_4
    obtain ⟨tt, htt, rfl⟩ := (bIn_lit (N := 5) (by omega)).mp c_4
    have clt : (nI tt).toNatClampNeg = tt := nI_clamp (by omega)
    have vt : vp_in (nI tt) 6 := vp_in_nI (by omega) (by omega)
    obtain ⟨⟨n, hn, en⟩, hso⟩ := hT tt (by omega)
    refine aw_iload_n (pc' := 8) eX7_read_7 rfl rfl ?_
    refine aw_iconst (pc' := 9) (v := 0) eX7_read_8 rfl (by decide) ?_
    refine aw_aload_n (pc' := 10) eX7_read_9 rfl rfl trivial ?_
    refine aw_Mref (pc' := 13) (kf := 25) 16 hM eX7_read_10 rfl (by decide) rfl q814 ?_
    refine aw_iload_n (pc' := 14) eX7_read_13 rfl rfl ?_
    refine aw_MaldC (pc' := 15) 16 tt hM eX7_read_14 rfl (by decide) vt clt ?_
    refine aw_iconst (pc' := 16) (v := 1) eX7_read_15 rfl (by decide) ?_
    refine aw_isub (pc' := 17) eX7_read_16 rfl ?_
    refine aw_calls (pc' := 20) (nn := 3) (c_X7_isIn (d := d - 1) _ _ _ (by omega)) eX7_read_17 rfl ⟨q890, q892, q62⟩ q891 ⟨by decide +kernel, by decide +kernel, by decide +kernel⟩ rfl ⟨by omega, by decide⟩ ⟨by omega, by omega⟩ rfl (Nat.le_of_ble_eq_true rfl) (fun v4 h5 hq6 => ?_)
    obtain ⟨rfl, rfl⟩ := hq6
    dsimp only [Option.toList, List.cons_append, List.nil_append]
    refine aw_if_eq (pc' := 23) (tgt := 37) eX7_read_20 rfl (by decide) (fun c_20 => ?_) (fun c_20 => ?_)
    · refine aw_ldc2 (pc' := 40) eX7_read_37 rfl q1086 ?_
      refine aw_ret (v := some (.long _)) eX7_read_40 ⟨rfl, rfl⟩ (by omega) (by omega) rfl ?_
      first
        | exact ⟨by rw [sRead, if_pos ⟨c_4, by rw [clt, en]; exact c_20⟩, clt, clj, ← hx60], rfl⟩
        | (simp only [zb_eq0, Bool.not_eq_false, Bool.not_eq_true, decide_eq_true_eq, decide_eq_false_iff_not, Decidable.not_not, en] at c_20; exact ⟨by rw [sRead, if_neg (by rw [clt, en, c_20]; simp)], rfl⟩)
    · simp only [zb_eq0, Bool.not_eq_false, Bool.not_eq_true, decide_eq_true_eq, decide_eq_false_iff_not, Decidable.not_not, en] at c_20
      have hcI : ∃ j, j < n ∧ i = nI j := by
        have z := c_20
        cases n with
        | zero =>
          rw [bIn_toInt, show (nI 0 - 1).toInt = -1 from by decide, show (0 : Int32).toInt = 0 from by decide] at z
          omega
        | succ k =>
          rw [nI_m1, bIn_lit (by omega)] at z
          obtain ⟨j, h1, h2⟩ := z
          exact ⟨j, by omega, h2⟩
      obtain ⟨j, hj, ej⟩ := hcI
      have clj : i.toNatClampNeg = j := by rw [ej]; exact nI_clamp (by omega)
      have hx60 : (60 * nI tt + i).toNatClampNeg = 60 * tt + j := by rw [ej]; exact (ix60 (by omega)).1
      have hv60 : vp_in (60 * nI tt + i) 360 := by rw [ej]; exact (ix60 (by omega)).2
      refine aw_aload_n (pc' := 24) eX7_read_23 rfl rfl trivial ?_
      refine aw_Mref (pc' := 27) (kf := 26) 17 hM eX7_read_24 rfl (by decide) rfl q815 ?_
      refine aw_bipush (pc' := 29) (v := 60) eX7_read_27 rfl (by decide) ?_
      refine aw_iload_n (pc' := 30) eX7_read_29 rfl rfl ?_
      refine aw_imul (pc' := 31) eX7_read_30 rfl ?_
      refine aw_iload_n (pc' := 32) eX7_read_31 rfl rfl ?_
      refine aw_iadd (pc' := 33) eX7_read_32 rfl ?_
      refine aw_Mjld (pc' := 34) 17 hM eX7_read_33 rfl (by decide) hv60 ?_
      refine aw_goto eX7_read_34 (by decide) (tgt := 40) ?_
      refine aw_ret (v := some (.long _)) eX7_read_40 ⟨rfl, rfl⟩ (by omega) (by omega) rfl ?_
      first
        | exact ⟨by rw [sRead, if_pos ⟨c_4, by rw [clt, en]; exact c_20⟩, clt, clj, ← hx60], rfl⟩
        | (simp only [zb_eq0, Bool.not_eq_false, Bool.not_eq_true, decide_eq_true_eq, decide_eq_false_iff_not, Decidable.not_not, en] at c_20; exact ⟨by rw [sRead, if_neg (by rw [clt, en, c_20]; simp)], rfl⟩)
/-- what an item keeps of a number -/
def sFit (s : Int32) (v : Int64) : Int64 := if s = 0 then v.toInt32.toInt8.toInt32.toInt64 else if s = 1 then v.toInt32.toInt16.toInt32.toInt64 else if s = 2 then v.toInt32.toInt64 else if s = 3 then v else if lg_cmp v 0 = 0 then 0 else 1
def sItem (U : MS) (t i : Int32) (v : Int64) : Int32 × MS :=
  if bIn t 0 5 = true then if U.1 15 t.toNatClampNeg < 0 then (-11, U) else if bIn i 0 (U.1 16 t.toNatClampNeg - 1) = true then (1, mupL U 17 (60 * t.toNatClampNeg + i.toNatClampNeg) (sFit (U.1 15 t.toNatClampNeg) v)) else (-13, U) else (-1, U)
abbrev mX7_item : MT := (RX7, cX7_item, 6, (some .int), false)
theorem eX7_item_0 : decode mX7_item.2.1 0 = .ok (.iload_n 1, 1) := by decide +kernel
theorem eX7_item_1 : decode mX7_item.2.1 1 = .ok (.invokestatic 249, 3) := by decide +kernel
theorem eX7_item_4 : decode mX7_item.2.1 4 = .ok (.ifCond .ne 5, 3) := by decide +kernel
theorem eX7_item_7 : decode mX7_item.2.1 7 = .ok (.iconst (-1), 1) := by decide +kernel
theorem eX7_item_8 : decode mX7_item.2.1 8 = .ok (.ireturn, 1) := by decide +kernel
theorem eX7_item_9 : decode mX7_item.2.1 9 = .ok (.aload_n 0, 1) := by decide +kernel
theorem eX7_item_10 : decode mX7_item.2.1 10 = .ok (.getfield 59, 3) := by decide +kernel
theorem eX7_item_13 : decode mX7_item.2.1 13 = .ok (.iload_n 1, 1) := by decide +kernel
theorem eX7_item_14 : decode mX7_item.2.1 14 = .ok (.iaload, 1) := by decide +kernel
theorem eX7_item_15 : decode mX7_item.2.1 15 = .ok (.ifCond .ge 6, 3) := by decide +kernel
theorem eX7_item_18 : decode mX7_item.2.1 18 = .ok (.bipush (-11), 2) := by decide +kernel
theorem eX7_item_20 : decode mX7_item.2.1 20 = .ok (.ireturn, 1) := by decide +kernel
theorem eX7_item_21 : decode mX7_item.2.1 21 = .ok (.iload_n 2, 1) := by decide +kernel
theorem eX7_item_22 : decode mX7_item.2.1 22 = .ok (.iconst 0, 1) := by decide +kernel
theorem eX7_item_23 : decode mX7_item.2.1 23 = .ok (.aload_n 0, 1) := by decide +kernel
theorem eX7_item_24 : decode mX7_item.2.1 24 = .ok (.getfield 62, 3) := by decide +kernel
theorem eX7_item_27 : decode mX7_item.2.1 27 = .ok (.iload_n 1, 1) := by decide +kernel
theorem eX7_item_28 : decode mX7_item.2.1 28 = .ok (.iaload, 1) := by decide +kernel
theorem eX7_item_29 : decode mX7_item.2.1 29 = .ok (.iconst 1, 1) := by decide +kernel
theorem eX7_item_30 : decode mX7_item.2.1 30 = .ok (.isub, 1) := by decide +kernel
theorem eX7_item_31 : decode mX7_item.2.1 31 = .ok (.invokestatic 80, 3) := by decide +kernel
theorem eX7_item_34 : decode mX7_item.2.1 34 = .ok (.ifCond .ne 6, 3) := by decide +kernel
theorem eX7_item_37 : decode mX7_item.2.1 37 = .ok (.bipush (-13), 2) := by decide +kernel
theorem eX7_item_39 : decode mX7_item.2.1 39 = .ok (.ireturn, 1) := by decide +kernel
theorem eX7_item_40 : decode mX7_item.2.1 40 = .ok (.aload_n 0, 1) := by decide +kernel
theorem eX7_item_41 : decode mX7_item.2.1 41 = .ok (.getfield 59, 3) := by decide +kernel
theorem eX7_item_44 : decode mX7_item.2.1 44 = .ok (.iload_n 1, 1) := by decide +kernel
theorem eX7_item_45 : decode mX7_item.2.1 45 = .ok (.iaload, 1) := by decide +kernel
theorem eX7_item_46 : decode mX7_item.2.1 46 = .ok (.istore 5, 2) := by decide +kernel
theorem eX7_item_48 : decode mX7_item.2.1 48 = .ok (.aload_n 0, 1) := by decide +kernel
theorem eX7_item_49 : decode mX7_item.2.1 49 = .ok (.getfield 65, 3) := by decide +kernel
theorem eX7_item_52 : decode mX7_item.2.1 52 = .ok (.bipush 60, 2) := by decide +kernel
theorem eX7_item_54 : decode mX7_item.2.1 54 = .ok (.iload_n 1, 1) := by decide +kernel
theorem eX7_item_55 : decode mX7_item.2.1 55 = .ok (.imul, 1) := by decide +kernel
theorem eX7_item_56 : decode mX7_item.2.1 56 = .ok (.iload_n 2, 1) := by decide +kernel
theorem eX7_item_57 : decode mX7_item.2.1 57 = .ok (.iadd, 1) := by decide +kernel
theorem eX7_item_58 : decode mX7_item.2.1 58 = .ok (.iload 5, 2) := by decide +kernel
theorem eX7_item_60 : decode mX7_item.2.1 60 = .ok (.ifCond .ne 10, 3) := by decide +kernel
theorem eX7_item_63 : decode mX7_item.2.1 63 = .ok (.lload_n 3, 1) := by decide +kernel
theorem eX7_item_64 : decode mX7_item.2.1 64 = .ok (.l2i, 1) := by decide +kernel
theorem eX7_item_65 : decode mX7_item.2.1 65 = .ok (.i2b, 1) := by decide +kernel
theorem eX7_item_66 : decode mX7_item.2.1 66 = .ok (.i2l, 1) := by decide +kernel
theorem eX7_item_67 : decode mX7_item.2.1 67 = .ok (.goto 49, 3) := by decide +kernel
theorem eX7_item_70 : decode mX7_item.2.1 70 = .ok (.iload 5, 2) := by decide +kernel
theorem eX7_item_72 : decode mX7_item.2.1 72 = .ok (.iconst 1, 1) := by decide +kernel
theorem eX7_item_73 : decode mX7_item.2.1 73 = .ok (.if_icmp .ne 10, 3) := by decide +kernel
theorem eX7_item_76 : decode mX7_item.2.1 76 = .ok (.lload_n 3, 1) := by decide +kernel
theorem eX7_item_77 : decode mX7_item.2.1 77 = .ok (.l2i, 1) := by decide +kernel
theorem eX7_item_78 : decode mX7_item.2.1 78 = .ok (.i2s, 1) := by decide +kernel
theorem eX7_item_79 : decode mX7_item.2.1 79 = .ok (.i2l, 1) := by decide +kernel
theorem eX7_item_80 : decode mX7_item.2.1 80 = .ok (.goto 36, 3) := by decide +kernel
theorem eX7_item_83 : decode mX7_item.2.1 83 = .ok (.iload 5, 2) := by decide +kernel
theorem eX7_item_85 : decode mX7_item.2.1 85 = .ok (.iconst 2, 1) := by decide +kernel
theorem eX7_item_86 : decode mX7_item.2.1 86 = .ok (.if_icmp .ne 9, 3) := by decide +kernel
theorem eX7_item_89 : decode mX7_item.2.1 89 = .ok (.lload_n 3, 1) := by decide +kernel
theorem eX7_item_90 : decode mX7_item.2.1 90 = .ok (.l2i, 1) := by decide +kernel
theorem eX7_item_91 : decode mX7_item.2.1 91 = .ok (.i2l, 1) := by decide +kernel
theorem eX7_item_92 : decode mX7_item.2.1 92 = .ok (.goto 24, 3) := by decide +kernel
theorem eX7_item_95 : decode mX7_item.2.1 95 = .ok (.iload 5, 2) := by decide +kernel
theorem eX7_item_97 : decode mX7_item.2.1 97 = .ok (.iconst 3, 1) := by decide +kernel
theorem eX7_item_98 : decode mX7_item.2.1 98 = .ok (.if_icmp .ne 7, 3) := by decide +kernel
theorem eX7_item_101 : decode mX7_item.2.1 101 = .ok (.lload_n 3, 1) := by decide +kernel
theorem eX7_item_102 : decode mX7_item.2.1 102 = .ok (.goto 14, 3) := by decide +kernel
theorem eX7_item_105 : decode mX7_item.2.1 105 = .ok (.lload_n 3, 1) := by decide +kernel
theorem eX7_item_106 : decode mX7_item.2.1 106 = .ok (.lconst 0, 1) := by decide +kernel
theorem eX7_item_107 : decode mX7_item.2.1 107 = .ok (.lcmp, 1) := by decide +kernel
theorem eX7_item_108 : decode mX7_item.2.1 108 = .ok (.ifCond .eq 7, 3) := by decide +kernel
theorem eX7_item_111 : decode mX7_item.2.1 111 = .ok (.lconst 1, 1) := by decide +kernel
theorem eX7_item_112 : decode mX7_item.2.1 112 = .ok (.goto 4, 3) := by decide +kernel
theorem eX7_item_115 : decode mX7_item.2.1 115 = .ok (.lconst 0, 1) := by decide +kernel
theorem eX7_item_116 : decode mX7_item.2.1 116 = .ok (.lastore, 1) := by decide +kernel
theorem eX7_item_117 : decode mX7_item.2.1 117 = .ok (.iconst 1, 1) := by decide +kernel
theorem eX7_item_118 : decode mX7_item.2.1 118 = .ok (.ireturn, 1) := by decide +kernel
theorem c_X7_item (hM : MAt h u U) (hT : mT U) (t i : Int32) (v : Int64) (hd : 2 ≤ d) : Ct l G mX7_item yX7_item d 0 0 [.ref u, .int t, .int i, .long v] h (fun r h' => r = some (.int (sItem U t i v).1) ∧ MAt h' u (sItem U t i v).2 ∧ Same u 19 h h') := by
  refine ct_of (lv := [some (.ref u), some (.int t), some (.int i), some (.long v), none, none]) (by decide +kernel) rfl (fun z => by cases z) (fun _ => rfl) (fun _ => Nat.le_of_ble_eq_true rfl) ?_
  refine aw_iload_n (pc' := 1) eX7_item_0 rfl rfl ?_
  refine aw_calls (pc' := 4) (nn := 1) (c_X7_isTape (d := d - 1) _ (by omega)) eX7_item_1 rfl ⟨q1146, q1148, q62⟩ q1147 ⟨by decide +kernel, by decide +kernel, by decide +kernel⟩ rfl ⟨by omega, by decide⟩ ⟨by omega, by omega⟩ rfl (Nat.le_of_ble_eq_true rfl) (fun v1 h2 hq3 => ?_)
  obtain ⟨rfl, rfl⟩ := hq3
  dsimp only [Option.toList, List.cons_append, List.nil_append]
  refine aw_if_ne (pc' := 7) (tgt := 9) eX7_item_4 rfl (by decide) (fun c_4 => ?_) (fun c_4 => ?_)
  · simp only [zb_eq0, Bool.not_eq_false, Bool.not_eq_true, decide_eq_true_eq, decide_eq_false_iff_not, Decidable.not_not] at c_4
    obtain ⟨tt, htt, rfl⟩ := (bIn_lit (N := 5) (by omega)).mp c_4
    have clt : (nI tt).toNatClampNeg = tt := nI_clamp (by omega)
    have vt : vp_in (nI tt) 6 := vp_in_nI (by omega) (by omega)
    obtain ⟨⟨n, hn, en⟩, hso⟩ := hT tt (by omega)
    refine aw_aload_n (pc' := 10) eX7_item_9 rfl rfl trivial ?_
    refine aw_Mref (pc' := 13) (kf := 24) 15 hM eX7_item_10 rfl (by decide) rfl q813 ?_
    refine aw_iload_n (pc' := 14) eX7_item_13 rfl rfl ?_
    refine aw_MaldC (pc' := 15) 15 tt hM eX7_item_14 rfl (by decide) vt clt ?_
    refine aw_if_ge (pc' := 18) (tgt := 21) eX7_item_15 rfl (by decide) (fun c_15 => ?_) (fun c_15 => ?_)
    · refine aw_iload_n (pc' := 22) eX7_item_21 rfl rfl ?_
      refine aw_iconst (pc' := 23) (v := 0) eX7_item_22 rfl (by decide) ?_
      refine aw_aload_n (pc' := 24) eX7_item_23 rfl rfl trivial ?_
      refine aw_Mref (pc' := 27) (kf := 25) 16 hM eX7_item_24 rfl (by decide) rfl q814 ?_
      refine aw_iload_n (pc' := 28) eX7_item_27 rfl rfl ?_
      refine aw_MaldC (pc' := 29) 16 tt hM eX7_item_28 rfl (by decide) vt clt ?_
      refine aw_iconst (pc' := 30) (v := 1) eX7_item_29 rfl (by decide) ?_
      refine aw_isub (pc' := 31) eX7_item_30 rfl ?_
      refine aw_calls (pc' := 34) (nn := 3) (c_X7_isIn (d := d - 1) _ _ _ (by omega)) eX7_item_31 rfl ⟨q890, q892, q62⟩ q891 ⟨by decide +kernel, by decide +kernel, by decide +kernel⟩ rfl ⟨by omega, by decide⟩ ⟨by omega, by omega⟩ rfl (Nat.le_of_ble_eq_true rfl) (fun v4 h5 hq6 => ?_)
      obtain ⟨rfl, rfl⟩ := hq6
      dsimp only [Option.toList, List.cons_append, List.nil_append]
      refine aw_if_ne (pc' := 37) (tgt := 40) eX7_item_34 rfl (by decide) (fun c_34 => ?_) (fun c_34 => ?_)
      · simp only [zb_eq0, Bool.not_eq_false, Bool.not_eq_true, decide_eq_true_eq, decide_eq_false_iff_not, Decidable.not_not, en] at c_34
        have hcI : ∃ j, j < n ∧ i = nI j := by
          have z := c_34
          cases n with
          | zero =>
            rw [bIn_toInt, show (nI 0 - 1).toInt = -1 from by decide, show (0 : Int32).toInt = 0 from by decide] at z
            omega
          | succ k =>
            rw [nI_m1, bIn_lit (by omega)] at z
            obtain ⟨j, h1, h2⟩ := z
            exact ⟨j, by omega, h2⟩
        obtain ⟨j, hj, ej⟩ := hcI
        have clj : i.toNatClampNeg = j := by rw [ej]; exact nI_clamp (by omega)
        have hx60 : (60 * nI tt + i).toNatClampNeg = 60 * tt + j := by rw [ej]; exact (ix60 (by omega)).1
        have hv60 : vp_in (60 * nI tt + i) 360 := by rw [ej]; exact (ix60 (by omega)).2
        refine aw_aload_n (pc' := 41) eX7_item_40 rfl rfl trivial ?_
        refine aw_Mref (pc' := 44) (kf := 24) 15 hM eX7_item_41 rfl (by decide) rfl q813 ?_
        refine aw_iload_n (pc' := 45) eX7_item_44 rfl rfl ?_
        refine aw_MaldC (pc' := 46) 15 tt hM eX7_item_45 rfl (by decide) vt clt ?_
        refine aw_istore (pc' := 48) eX7_item_46 rfl (by decide) ?_
        dsimp only [zst, zst2, zcut]
        refine aw_aload_n (pc' := 49) eX7_item_48 rfl rfl trivial ?_
        refine aw_Mref (pc' := 52) (kf := 26) 17 hM eX7_item_49 rfl (by decide) rfl q815 ?_
        refine aw_bipush (pc' := 54) (v := 60) eX7_item_52 rfl (by decide) ?_
        refine aw_iload_n (pc' := 55) eX7_item_54 rfl rfl ?_
        refine aw_imul (pc' := 56) eX7_item_55 rfl ?_
        refine aw_iload_n (pc' := 57) eX7_item_56 rfl rfl ?_
        refine aw_iadd (pc' := 58) eX7_item_57 rfl ?_
        refine aw_iload (pc' := 60) eX7_item_58 rfl rfl ?_
        refine aw_if_ne (pc' := 63) (tgt := 70) eX7_item_60 rfl (by decide) (fun c_60 => ?_) (fun c_60 => ?_)
        · refine aw_iload (pc' := 72) eX7_item_70 rfl rfl ?_
          refine aw_iconst (pc' := 73) (v := 1) eX7_item_72 rfl (by decide) ?_
          refine aw_icmp_ne (pc' := 76) (tgt := 83) eX7_item_73 rfl (by decide) (fun c_73 => ?_) (fun c_73 => ?_)
          · refine aw_iload (pc' := 85) eX7_item_83 rfl rfl ?_
            refine aw_iconst (pc' := 86) (v := 2) eX7_item_85 rfl (by decide) ?_
            refine aw_icmp_ne (pc' := 89) (tgt := 95) eX7_item_86 rfl (by decide) (fun c_86 => ?_) (fun c_86 => ?_)
            · refine aw_iload (pc' := 97) eX7_item_95 rfl rfl ?_
              refine aw_iconst (pc' := 98) (v := 3) eX7_item_97 rfl (by decide) ?_
              refine aw_icmp_ne (pc' := 101) (tgt := 105) eX7_item_98 rfl (by decide) (fun c_98 => ?_) (fun c_98 => ?_)
              · refine aw_lload_n (pc' := 106) eX7_item_105 rfl rfl ?_
                refine aw_lconst (pc' := 107) (v := 0) eX7_item_106 rfl (by decide) ?_
                refine aw_lcmp (pc' := 108) eX7_item_107 rfl ?_
                refine aw_if_eq (pc' := 111) (tgt := 115) eX7_item_108 rfl (by decide) (fun c_108 => ?_) (fun c_108 => ?_)
                · refine aw_lconst (pc' := 116) (v := 0) eX7_item_115 rfl (by decide) ?_
                  refine aw_Mjst (pc' := 117) 17 hM eX7_item_116 rfl (by decide) hv60 (fun h9 hM7 hs8 => ?_)
                  refine aw_iconst (pc' := 118) (v := 1) eX7_item_117 rfl (by decide) ?_
                  refine aw_ret (v := some (.int _)) eX7_item_118 ⟨rfl, rfl⟩ (by omega) (by omega) rfl ?_
                  have c15 : ¬ U.1 15 tt < 0 := i32_nlt.mpr c_15
                  have hM9 := hM7
                  rw [hx60] at hM9
                  refine ⟨by rw [sItem, if_pos c_4, clt, if_neg c15, if_pos (by rw [en]; exact c_34)], ?_, hs8⟩
                  rw [sItem, if_pos c_4, clt, if_neg c15, if_pos (by rw [en]; exact c_34), clj]
                  first
                    | (simp only [sFit, c_60, c_73, c_86, c_98, c_108, if_true, if_false]; exact hM9)
                    | (simpa [sFit, c_60, c_73, c_86, c_98, c_108] using hM9)
                · refine aw_lconst (pc' := 112) (v := 1) eX7_item_111 rfl (by decide) ?_
                  refine aw_goto eX7_item_112 (by decide) (tgt := 116) ?_
                  refine aw_Mjst (pc' := 117) 17 hM eX7_item_116 rfl (by decide) hv60 (fun h12 hM10 hs11 => ?_)
                  refine aw_iconst (pc' := 118) (v := 1) eX7_item_117 rfl (by decide) ?_
                  refine aw_ret (v := some (.int _)) eX7_item_118 ⟨rfl, rfl⟩ (by omega) (by omega) rfl ?_
                  have c15 : ¬ U.1 15 tt < 0 := i32_nlt.mpr c_15
                  have hM9 := hM10
                  rw [hx60] at hM9
                  refine ⟨by rw [sItem, if_pos c_4, clt, if_neg c15, if_pos (by rw [en]; exact c_34)], ?_, hs11⟩
                  rw [sItem, if_pos c_4, clt, if_neg c15, if_pos (by rw [en]; exact c_34), clj]
                  first
                    | (simp only [sFit, c_60, c_73, c_86, c_98, c_108, if_true, if_false]; exact hM9)
                    | (simpa [sFit, c_60, c_73, c_86, c_98, c_108] using hM9)
              · refine aw_lload_n (pc' := 102) eX7_item_101 rfl rfl ?_
                refine aw_goto eX7_item_102 (by decide) (tgt := 116) ?_
                refine aw_Mjst (pc' := 117) 17 hM eX7_item_116 rfl (by decide) hv60 (fun h15 hM13 hs14 => ?_)
                refine aw_iconst (pc' := 118) (v := 1) eX7_item_117 rfl (by decide) ?_
                refine aw_ret (v := some (.int _)) eX7_item_118 ⟨rfl, rfl⟩ (by omega) (by omega) rfl ?_
                have c15 : ¬ U.1 15 tt < 0 := i32_nlt.mpr c_15
                have hM9 := hM13
                rw [hx60] at hM9
                refine ⟨by rw [sItem, if_pos c_4, clt, if_neg c15, if_pos (by rw [en]; exact c_34)], ?_, hs14⟩
                rw [sItem, if_pos c_4, clt, if_neg c15, if_pos (by rw [en]; exact c_34), clj]
                first
                  | (simp only [sFit, c_60, c_73, c_86, c_98, if_true, if_false]; exact hM9)
                  | (simpa [sFit, c_60, c_73, c_86, c_98] using hM9)
            · refine aw_lload_n (pc' := 90) eX7_item_89 rfl rfl ?_
              refine aw_l2i (pc' := 91) eX7_item_90 rfl ?_
              refine aw_i2l (pc' := 92) eX7_item_91 rfl ?_
              refine aw_goto eX7_item_92 (by decide) (tgt := 116) ?_
              refine aw_Mjst (pc' := 117) 17 hM eX7_item_116 rfl (by decide) hv60 (fun h18 hM16 hs17 => ?_)
              refine aw_iconst (pc' := 118) (v := 1) eX7_item_117 rfl (by decide) ?_
              refine aw_ret (v := some (.int _)) eX7_item_118 ⟨rfl, rfl⟩ (by omega) (by omega) rfl ?_
              have c15 : ¬ U.1 15 tt < 0 := i32_nlt.mpr c_15
              have hM9 := hM16
              rw [hx60] at hM9
              refine ⟨by rw [sItem, if_pos c_4, clt, if_neg c15, if_pos (by rw [en]; exact c_34)], ?_, hs17⟩
              rw [sItem, if_pos c_4, clt, if_neg c15, if_pos (by rw [en]; exact c_34), clj]
              first
                | (simp only [sFit, c_60, c_73, c_86, if_true, if_false]; exact hM9)
                | (simpa [sFit, c_60, c_73, c_86] using hM9)
          · refine aw_lload_n (pc' := 77) eX7_item_76 rfl rfl ?_
            refine aw_l2i (pc' := 78) eX7_item_77 rfl ?_
            refine aw_i2s (pc' := 79) eX7_item_78 rfl ?_
            refine aw_i2l (pc' := 80) eX7_item_79 rfl ?_
            refine aw_goto eX7_item_80 (by decide) (tgt := 116) ?_
            refine aw_Mjst (pc' := 117) 17 hM eX7_item_116 rfl (by decide) hv60 (fun h21 hM19 hs20 => ?_)
            refine aw_iconst (pc' := 118) (v := 1) eX7_item_117 rfl (by decide) ?_
            refine aw_ret (v := some (.int _)) eX7_item_118 ⟨rfl, rfl⟩ (by omega) (by omega) rfl ?_
            have c15 : ¬ U.1 15 tt < 0 := i32_nlt.mpr c_15
            have hM9 := hM19
            rw [hx60] at hM9
            refine ⟨by rw [sItem, if_pos c_4, clt, if_neg c15, if_pos (by rw [en]; exact c_34)], ?_, hs20⟩
            rw [sItem, if_pos c_4, clt, if_neg c15, if_pos (by rw [en]; exact c_34), clj]
            first
              | (simp only [sFit, c_60, c_73, if_true, if_false]; exact hM9)
              | (simpa [sFit, c_60, c_73] using hM9)
        · refine aw_lload_n (pc' := 64) eX7_item_63 rfl rfl ?_
          refine aw_l2i (pc' := 65) eX7_item_64 rfl ?_
          refine aw_i2b (pc' := 66) eX7_item_65 rfl ?_
          refine aw_i2l (pc' := 67) eX7_item_66 rfl ?_
          refine aw_goto eX7_item_67 (by decide) (tgt := 116) ?_
          refine aw_Mjst (pc' := 117) 17 hM eX7_item_116 rfl (by decide) hv60 (fun h24 hM22 hs23 => ?_)
          refine aw_iconst (pc' := 118) (v := 1) eX7_item_117 rfl (by decide) ?_
          refine aw_ret (v := some (.int _)) eX7_item_118 ⟨rfl, rfl⟩ (by omega) (by omega) rfl ?_
          have c15 : ¬ U.1 15 tt < 0 := i32_nlt.mpr c_15
          have hM9 := hM22
          rw [hx60] at hM9
          refine ⟨by rw [sItem, if_pos c_4, clt, if_neg c15, if_pos (by rw [en]; exact c_34)], ?_, hs23⟩
          rw [sItem, if_pos c_4, clt, if_neg c15, if_pos (by rw [en]; exact c_34), clj]
          first
            | (simp only [sFit, c_60, if_true, if_false]; exact hM9)
            | (simpa [sFit, c_60] using hM9)
      · refine aw_bipush (pc' := 39) (v := -13) eX7_item_37 rfl (by decide) ?_
        refine aw_ret (v := some (.int _)) eX7_item_39 ⟨rfl, rfl⟩ (by omega) (by omega) rfl ?_
        simp only [zb_eq0, Bool.not_eq_false, Bool.not_eq_true, decide_eq_true_eq, decide_eq_false_iff_not, Decidable.not_not, en] at c_34
        have c15 : ¬ U.1 15 tt < 0 := i32_nlt.mpr c_15
        exact ⟨by rw [sItem, if_pos c_4, clt, if_neg c15, if_neg (by rw [en, c_34]; decide)], by rw [sItem, if_pos c_4, clt, if_neg c15, if_neg (by rw [en, c_34]; decide)]; exact hM, Same.rf⟩
    · refine aw_bipush (pc' := 20) (v := -11) eX7_item_18 rfl (by decide) ?_
      refine aw_ret (v := some (.int _)) eX7_item_20 ⟨rfl, rfl⟩ (by omega) (by omega) rfl ?_
      exact ⟨by rw [sItem, if_pos c_4, clt, if_pos (i32_nle.mp c_15)], by rw [sItem, if_pos c_4, clt, if_pos (i32_nle.mp c_15)]; exact hM, Same.rf⟩
  · refine aw_iconst (pc' := 8) (v := -1) eX7_item_7 rfl (by decide) ?_
    refine aw_ret (v := some (.int _)) eX7_item_8 ⟨rfl, rfl⟩ (by omega) (by omega) rfl ?_
    try simp only [zb_eq0, Bool.not_eq_false, Bool.not_eq_true, decide_eq_true_eq, decide_eq_false_iff_not, Decidable.not_not] at c_4
    exact ⟨by simp [sItem, c_4], by simp [sItem, c_4]; exact hM, Same.rf⟩
end M6
