/-! the model: a text is charted -/
section M25
variable {l : Launch} {G : GT} {u : Nat} {U U1 : MS} {d n m t : Nat} {g : Nat → Int32} {h : Hp} {Q : Option Value → Hp → Prop}
/-- the model after a text that is no sea, and after one that is -/
def chNo (U U' : MS) : Prop := (∀ j, j ≠ 7 → U'.1 j = U.1 j) ∧ (∀ k, k < 10 ∨ 15 < k → k ≠ 5 → U'.2.1 k = U.2.1 k) ∧ U'.2.1 5 = 0 ∧ U'.2.2 = U.2.2
def chYes (U : MS) (c a : Nat) (U' : MS) : Prop := (∀ j, j ≠ 1 → j ≠ 5 → j ≠ 6 → j ≠ 7 → U'.1 j = U.1 j) ∧ U'.1 1 = upd (U.1 1) 68 (nI (c + 1)) ∧ (∀ q, q < 600 → U'.1 5 q = if 100 * c ≤ q ∧ q < 100 * c + a then U.1 4 (q - 100 * c) else U.1 5 q) ∧ U'.1 6 = upd (U.1 6) c (nI a) ∧ (∀ k, k < 10 ∨ 15 < k → k ≠ 5 → k ≠ 8 → U'.2.1 k = U.2.1 k) ∧ U'.2.1 5 = 0 ∧ U'.2.1 8 = nI (c + 1) ∧ U'.2.2 = U.2.2
theorem vpE {x : Int32} {c N : Nat} (h : x = nI c) (hc : c < N) (hN : N < 2 ^ 31) : vp_in x N := by
  rw [h]; exact vp_in_nI hc (by omega)
theorem clE {x : Int32} {c : Nat} (h : x = nI c) (hc : c < 2 ^ 31) : x.toNatClampNeg = c := by
  rw [h]; exact nI_clamp hc

abbrev mX7_chart : MT := (RX7, cX7_chart, 2, (some .int), false)
theorem eX7_chart_0 : decode mX7_chart.2.1 0 = .ok (.aload_n 0, 1) := by decide +kernel
theorem eX7_chart_1 : decode mX7_chart.2.1 1 = .ok (.getfield 177, 3) := by decide +kernel
theorem eX7_chart_4 : decode mX7_chart.2.1 4 = .ok (.bipush 6, 2) := by decide +kernel
theorem eX7_chart_6 : decode mX7_chart.2.1 6 = .ok (.if_icmp .ne 6, 3) := by decide +kernel
theorem eX7_chart_9 : decode mX7_chart.2.1 9 = .ok (.bipush (-4), 2) := by decide +kernel
theorem eX7_chart_11 : decode mX7_chart.2.1 11 = .ok (.ireturn, 1) := by decide +kernel
theorem eX7_chart_12 : decode mX7_chart.2.1 12 = .ok (.aload_n 0, 1) := by decide +kernel
theorem eX7_chart_13 : decode mX7_chart.2.1 13 = .ok (.aload_n 0, 1) := by decide +kernel
theorem eX7_chart_14 : decode mX7_chart.2.1 14 = .ok (.getfield 123, 3) := by decide +kernel
theorem eX7_chart_17 : decode mX7_chart.2.1 17 = .ok (.putfield 133, 3) := by decide +kernel
theorem eX7_chart_20 : decode mX7_chart.2.1 20 = .ok (.iconst 0, 1) := by decide +kernel
theorem eX7_chart_21 : decode mX7_chart.2.1 21 = .ok (.istore_n 1, 1) := by decide +kernel
theorem eX7_chart_22 : decode mX7_chart.2.1 22 = .ok (.iload_n 1, 1) := by decide +kernel
theorem eX7_chart_23 : decode mX7_chart.2.1 23 = .ok (.aload_n 0, 1) := by decide +kernel
theorem eX7_chart_24 : decode mX7_chart.2.1 24 = .ok (.getfield 133, 3) := by decide +kernel
theorem eX7_chart_27 : decode mX7_chart.2.1 27 = .ok (.if_icmp .ge 21, 3) := by decide +kernel
theorem eX7_chart_30 : decode mX7_chart.2.1 30 = .ok (.aload_n 0, 1) := by decide +kernel
theorem eX7_chart_31 : decode mX7_chart.2.1 31 = .ok (.getfield 34, 3) := by decide +kernel
theorem eX7_chart_34 : decode mX7_chart.2.1 34 = .ok (.iload_n 1, 1) := by decide +kernel
theorem eX7_chart_35 : decode mX7_chart.2.1 35 = .ok (.aload_n 0, 1) := by decide +kernel
theorem eX7_chart_36 : decode mX7_chart.2.1 36 = .ok (.getfield 25, 3) := by decide +kernel
theorem eX7_chart_39 : decode mX7_chart.2.1 39 = .ok (.iload_n 1, 1) := by decide +kernel
theorem eX7_chart_40 : decode mX7_chart.2.1 40 = .ok (.iaload, 1) := by decide +kernel
theorem eX7_chart_41 : decode mX7_chart.2.1 41 = .ok (.iastore, 1) := by decide +kernel
theorem eX7_chart_42 : decode mX7_chart.2.1 42 = .ok (.iinc 1 1, 3) := by decide +kernel
theorem eX7_chart_45 : decode mX7_chart.2.1 45 = .ok (.goto (-23), 3) := by decide +kernel
theorem eX7_chart_48 : decode mX7_chart.2.1 48 = .ok (.aload_n 0, 1) := by decide +kernel
theorem eX7_chart_49 : decode mX7_chart.2.1 49 = .ok (.iconst 0, 1) := by decide +kernel
theorem eX7_chart_50 : decode mX7_chart.2.1 50 = .ok (.putfield 123, 3) := by decide +kernel
theorem eX7_chart_53 : decode mX7_chart.2.1 53 = .ok (.aload_n 0, 1) := by decide +kernel
theorem eX7_chart_54 : decode mX7_chart.2.1 54 = .ok (.invokevirtual 174, 3) := by decide +kernel
theorem eX7_chart_57 : decode mX7_chart.2.1 57 = .ok (.ifCond .ne 11, 3) := by decide +kernel
theorem eX7_chart_60 : decode mX7_chart.2.1 60 = .ok (.bipush (-10), 2) := by decide +kernel
theorem eX7_chart_62 : decode mX7_chart.2.1 62 = .ok (.aload_n 0, 1) := by decide +kernel
theorem eX7_chart_63 : decode mX7_chart.2.1 63 = .ok (.getfield 130, 3) := by decide +kernel
theorem eX7_chart_66 : decode mX7_chart.2.1 66 = .ok (.isub, 1) := by decide +kernel
theorem eX7_chart_67 : decode mX7_chart.2.1 67 = .ok (.ireturn, 1) := by decide +kernel
theorem eX7_chart_68 : decode mX7_chart.2.1 68 = .ok (.iconst 0, 1) := by decide +kernel
theorem eX7_chart_69 : decode mX7_chart.2.1 69 = .ok (.istore_n 1, 1) := by decide +kernel
theorem eX7_chart_70 : decode mX7_chart.2.1 70 = .ok (.iload_n 1, 1) := by decide +kernel
theorem eX7_chart_71 : decode mX7_chart.2.1 71 = .ok (.aload_n 0, 1) := by decide +kernel
theorem eX7_chart_72 : decode mX7_chart.2.1 72 = .ok (.getfield 133, 3) := by decide +kernel
theorem eX7_chart_75 : decode mX7_chart.2.1 75 = .ok (.if_icmp .ge 29, 3) := by decide +kernel
theorem eX7_chart_78 : decode mX7_chart.2.1 78 = .ok (.aload_n 0, 1) := by decide +kernel
theorem eX7_chart_79 : decode mX7_chart.2.1 79 = .ok (.getfield 28, 3) := by decide +kernel
theorem eX7_chart_82 : decode mX7_chart.2.1 82 = .ok (.bipush 100, 2) := by decide +kernel
theorem eX7_chart_84 : decode mX7_chart.2.1 84 = .ok (.aload_n 0, 1) := by decide +kernel
theorem eX7_chart_85 : decode mX7_chart.2.1 85 = .ok (.getfield 177, 3) := by decide +kernel
theorem eX7_chart_88 : decode mX7_chart.2.1 88 = .ok (.imul, 1) := by decide +kernel
theorem eX7_chart_89 : decode mX7_chart.2.1 89 = .ok (.iload_n 1, 1) := by decide +kernel
theorem eX7_chart_90 : decode mX7_chart.2.1 90 = .ok (.iadd, 1) := by decide +kernel
theorem eX7_chart_91 : decode mX7_chart.2.1 91 = .ok (.aload_n 0, 1) := by decide +kernel
theorem eX7_chart_92 : decode mX7_chart.2.1 92 = .ok (.getfield 34, 3) := by decide +kernel
theorem eX7_chart_95 : decode mX7_chart.2.1 95 = .ok (.iload_n 1, 1) := by decide +kernel
theorem eX7_chart_96 : decode mX7_chart.2.1 96 = .ok (.iaload, 1) := by decide +kernel
theorem eX7_chart_97 : decode mX7_chart.2.1 97 = .ok (.iastore, 1) := by decide +kernel
theorem eX7_chart_98 : decode mX7_chart.2.1 98 = .ok (.iinc 1 1, 3) := by decide +kernel
theorem eX7_chart_101 : decode mX7_chart.2.1 101 = .ok (.goto (-31), 3) := by decide +kernel
theorem eX7_chart_104 : decode mX7_chart.2.1 104 = .ok (.aload_n 0, 1) := by decide +kernel
theorem eX7_chart_105 : decode mX7_chart.2.1 105 = .ok (.getfield 31, 3) := by decide +kernel
theorem eX7_chart_108 : decode mX7_chart.2.1 108 = .ok (.aload_n 0, 1) := by decide +kernel
theorem eX7_chart_109 : decode mX7_chart.2.1 109 = .ok (.getfield 177, 3) := by decide +kernel
theorem eX7_chart_112 : decode mX7_chart.2.1 112 = .ok (.aload_n 0, 1) := by decide +kernel
theorem eX7_chart_113 : decode mX7_chart.2.1 113 = .ok (.getfield 133, 3) := by decide +kernel
theorem eX7_chart_116 : decode mX7_chart.2.1 116 = .ok (.iastore, 1) := by decide +kernel
theorem eX7_chart_117 : decode mX7_chart.2.1 117 = .ok (.aload_n 0, 1) := by decide +kernel
theorem eX7_chart_118 : decode mX7_chart.2.1 118 = .ok (.dup, 1) := by decide +kernel
theorem eX7_chart_119 : decode mX7_chart.2.1 119 = .ok (.getfield 177, 3) := by decide +kernel
theorem eX7_chart_122 : decode mX7_chart.2.1 122 = .ok (.iconst 1, 1) := by decide +kernel
theorem eX7_chart_123 : decode mX7_chart.2.1 123 = .ok (.iadd, 1) := by decide +kernel
theorem eX7_chart_124 : decode mX7_chart.2.1 124 = .ok (.putfield 177, 3) := by decide +kernel
theorem eX7_chart_127 : decode mX7_chart.2.1 127 = .ok (.aload_n 0, 1) := by decide +kernel
theorem eX7_chart_128 : decode mX7_chart.2.1 128 = .ok (.getfield 15, 3) := by decide +kernel
theorem eX7_chart_131 : decode mX7_chart.2.1 131 = .ok (.bipush 68, 2) := by decide +kernel
theorem eX7_chart_133 : decode mX7_chart.2.1 133 = .ok (.aload_n 0, 1) := by decide +kernel
theorem eX7_chart_134 : decode mX7_chart.2.1 134 = .ok (.getfield 177, 3) := by decide +kernel
theorem eX7_chart_137 : decode mX7_chart.2.1 137 = .ok (.iastore, 1) := by decide +kernel
theorem eX7_chart_138 : decode mX7_chart.2.1 138 = .ok (.aload_n 0, 1) := by decide +kernel
theorem eX7_chart_139 : decode mX7_chart.2.1 139 = .ok (.getfield 177, 3) := by decide +kernel
theorem eX7_chart_142 : decode mX7_chart.2.1 142 = .ok (.iconst 1, 1) := by decide +kernel
theorem eX7_chart_143 : decode mX7_chart.2.1 143 = .ok (.isub, 1) := by decide +kernel
theorem eX7_chart_144 : decode mX7_chart.2.1 144 = .ok (.ireturn, 1) := by decide +kernel
theorem lp1_X7_chart {V : MS} (hv : V.2.1 10 = nI n) (hn : n ≤ 100) {h0 : Hp} (hQ : ∀ h' y', MAt h' u (mset V 7 (fun q => if q < n then V.1 4 q else V.1 7 q)) → Same u 19 h0 h' → AW l G mX7_chart d 0 0 Q 0 0 h' [some (.ref u), some (.int y')] [] 48) : ∀ (j k : Nat) (y : Int32) (h : Hp), j = n - k → k ≤ n → y = nI k → MAt h u (mset V 7 (fun q => if q < k then V.1 4 q else V.1 7 q)) → Same u 19 h0 h → AW l G mX7_chart d 0 0 Q 0 0 h [some (.ref u), some (.int y)] [] 22 := by
  intro j
  induction j using Nat.strongRecOn with
  | _ j ih =>
    intro k y h hj hk hy hM hs
    subst hy
    refine aw_iload_n (pc' := 23) eX7_chart_22 rfl rfl ?_
    refine aw_aload_n (pc' := 24) eX7_chart_23 rfl rfl trivial ?_
    refine aw_Mint (pc' := 27) (kf := 10) hM eX7_chart_24 rfl (by decide) q799 ?_
    refine aw_icmp_ge (pc' := 30) (tgt := 48) eX7_chart_27 rfl (by decide) (fun c_27 => ?_) (fun c_27 => ?_)
    · rw [show (mset V 7 (fun q => if q < k then V.1 4 q else V.1 7 q)).2.1 10 = nI n from hv] at c_27
      have c9 := ge_nI (by omega) (by omega) c_27
      obtain rfl : k = n := by omega
      exact hQ _ _ hM hs
    · rw [show (mset V 7 (fun q => if q < k then V.1 4 q else V.1 7 q)).2.1 10 = nI n from hv] at c_27
      have c9 := nge_nI (by omega) (by omega) c_27
      refine aw_aload_n (pc' := 31) eX7_chart_30 rfl rfl trivial ?_
      refine aw_Mref (pc' := 34) (kf := 9) 7 hM eX7_chart_31 rfl (by decide) rfl q798 ?_
      refine aw_iload_n (pc' := 35) eX7_chart_34 rfl rfl ?_
      refine aw_aload_n (pc' := 36) eX7_chart_35 rfl rfl trivial ?_
      refine aw_Mref (pc' := 39) (kf := 4) 4 hM eX7_chart_36 rfl (by decide) rfl q793 ?_
      refine aw_iload_n (pc' := 40) eX7_chart_39 rfl rfl ?_
      refine aw_MaldC (pc' := 41) 4 k hM eX7_chart_40 rfl (by decide) (show vp_in _ 100 from vp_in_nI (by omega) (by omega)) (nI_clamp (by omega)) ?_
      refine aw_MastC (pc' := 42) 7 k hM eX7_chart_41 rfl (by decide) (show vp_in _ 100 from vp_in_nI (by omega) (by omega)) (nI_clamp (by omega)) (fun h3 hM1 hs2 => ?_)
      refine aw_iinc (pc' := 45) eX7_chart_42 rfl rfl rfl (by decide) ?_
      dsimp only [zst, zst2, zcut]
      refine aw_goto eX7_chart_45 (by decide) (tgt := 22) ?_
      refine ih (n - (k + 1)) (by omega) (k + 1) _ _ rfl (by omega) (nI_inc k) ?_ (hs.tr hs2)
      have hM9 := hM1
      rw [mup_mset, mset_set, mset_eq] at hM9
      refine hM9.gs fun q hq => ?_
      rw [upd_if]
      show (if q = k then V.1 4 k else if q < k then V.1 4 q else V.1 7 q) = _
      by_cases e : q = k
      · rw [if_pos e, if_pos (by omega), e]
      · rw [if_neg e]
        by_cases e2 : q < k
        · rw [if_pos e2, if_pos (by omega)]
        · rw [if_neg e2, if_neg (by omega)]
theorem lp2_X7_chart {V : MS} {c : Nat} (hc : V.2.1 8 = nI c) (hc6 : c < 6) (hv : V.2.1 10 = nI n) (hn : n ≤ 100) {h0 : Hp} (hQ : ∀ h' y', MAt h' u (mset V 5 (fun q => if 100 * c ≤ q ∧ q < 100 * c + n then V.1 7 (q - 100 * c) else V.1 5 q)) → Same u 19 h0 h' → AW l G mX7_chart d 0 0 Q 0 0 h' [some (.ref u), some (.int y')] [] 104) : ∀ (j k : Nat) (y : Int32) (h : Hp), j = n - k → k ≤ n → y = nI k → MAt h u (mset V 5 (fun q => if 100 * c ≤ q ∧ q < 100 * c + k then V.1 7 (q - 100 * c) else V.1 5 q)) → Same u 19 h0 h → AW l G mX7_chart d 0 0 Q 0 0 h [some (.ref u), some (.int y)] [] 70 := by
  intro j
  induction j using Nat.strongRecOn with
  | _ j ih =>
    intro k y h hj hk hy hM hs
    subst hy
    refine aw_iload_n (pc' := 71) eX7_chart_70 rfl rfl ?_
    refine aw_aload_n (pc' := 72) eX7_chart_71 rfl rfl trivial ?_
    refine aw_Mint (pc' := 75) (kf := 10) hM eX7_chart_72 rfl (by decide) q799 ?_
    refine aw_icmp_ge (pc' := 78) (tgt := 104) eX7_chart_75 rfl (by decide) (fun c_75 => ?_) (fun c_75 => ?_)
    · rw [show (mset V 5 (fun q => if 100 * c ≤ q ∧ q < 100 * c + k then V.1 7 (q - 100 * c) else V.1 5 q)).2.1 10 = nI n from hv] at c_75
      have c9 := ge_nI (by omega) (by omega) c_75
      obtain rfl : k = n := by omega
      exact hQ _ _ hM hs
    · rw [show (mset V 5 (fun q => if 100 * c ≤ q ∧ q < 100 * c + k then V.1 7 (q - 100 * c) else V.1 5 q)).2.1 10 = nI n from hv] at c_75
      have c9 := nge_nI (by omega) (by omega) c_75
      refine aw_aload_n (pc' := 79) eX7_chart_78 rfl rfl trivial ?_
      refine aw_Mref (pc' := 82) (kf := 6) 5 hM eX7_chart_79 rfl (by decide) rfl q795 ?_
      refine aw_bipush (pc' := 84) (v := 100) eX7_chart_82 rfl (by decide) ?_
      refine aw_aload_n (pc' := 85) eX7_chart_84 rfl rfl trivial ?_
      refine aw_Mint (pc' := 88) (kf := 8) hM eX7_chart_85 rfl (by decide) q797 ?_
      refine aw_imul (pc' := 89) eX7_chart_88 rfl ?_
      refine aw_iload_n (pc' := 90) eX7_chart_89 rfl rfl ?_
      refine aw_iadd (pc' := 91) eX7_chart_90 rfl ?_
      refine aw_aload_n (pc' := 92) eX7_chart_91 rfl rfl trivial ?_
      refine aw_Mref (pc' := 95) (kf := 9) 7 hM eX7_chart_92 rfl (by decide) rfl q798 ?_
      refine aw_iload_n (pc' := 96) eX7_chart_95 rfl rfl ?_
      refine aw_MaldC (pc' := 97) 7 k hM eX7_chart_96 rfl (by decide) (show vp_in _ 100 from vp_in_nI (by omega) (by omega)) (nI_clamp (by omega)) ?_
      refine aw_MastC (pc' := 98) 5 (100 * c + k) hM eX7_chart_97 rfl (by decide) (show vp_in _ 600 by rw [show (mset V 5 (fun q => if 100 * c ≤ q ∧ q < 100 * c + k then V.1 7 (q - 100 * c) else V.1 5 q)).2.1 8 = nI c from hc]; exact (ix100 (r := c) (k := k) (by omega)).2) (by rw [show (mset V 5 (fun q => if 100 * c ≤ q ∧ q < 100 * c + k then V.1 7 (q - 100 * c) else V.1 5 q)).2.1 8 = nI c from hc]; exact (ix100 (r := c) (k := k) (by omega)).1) (fun h3 hM1 hs2 => ?_)
      refine aw_iinc (pc' := 101) eX7_chart_98 rfl rfl rfl (by decide) ?_
      dsimp only [zst, zst2, zcut]
      refine aw_goto eX7_chart_101 (by decide) (tgt := 70) ?_
      refine ih (n - (k + 1)) (by omega) (k + 1) _ _ rfl (by omega) (nI_inc k) ?_ (hs.tr hs2)
      have hM9 := hM1
      rw [mup_mset, mset_set, mset_eq] at hM9
      refine hM9.gs fun q hq => ?_
      rw [upd_if]
      show (if q = 100 * c + k then V.1 7 k else if 100 * c ≤ q ∧ q < 100 * c + k then V.1 7 (q - 100 * c) else V.1 5 q) = _
      by_cases e : q = 100 * c + k
      · rw [if_pos e, if_pos (by omega)]
        exact congrArg (V.1 7) (by omega)
      · rw [if_neg e]
        by_cases e2 : 100 * c ≤ q ∧ q < 100 * c + k
        · rw [if_pos e2, if_pos (by omega)]
        · rw [if_neg e2, if_neg (by omega)]
theorem c_X7_chart (hM : MAt h u U) {c a : Nat} (hc : U.2.1 8 = nI c) (hc6 : c ≤ 6) (hs5 : U.2.1 5 = nI a) (ha : a ≤ 100) (hd : 20 ≤ d) : Ct l G mX7_chart yX7_chart d 0 0 [.ref u] h (fun r h' => ∃ U', MAt h' u U' ∧ (if U.2.1 8 = 6 then r = some (.int (-4)) ∧ U' = U else if pGood a (pRA (U.1 4) a (U.1 9) (U.1 8) (U.1 10)) = true then r = some (.int (nI c)) ∧ chYes U c a U' else r = some (.int (-10 - nI (pRA (U.1 4) a (U.1 9) (U.1 8) (U.1 10)).1.1)) ∧ chNo U U') ∧ Same u 19 h h') := by
  refine ct_of (lv := [some (.ref u), none]) (by decide +kernel) rfl (fun z => by cases z) (fun _ => rfl) (fun _ => Nat.le_of_ble_eq_true rfl) ?_
  refine aw_aload_n (pc' := 1) eX7_chart_0 rfl rfl trivial ?_
  refine aw_Mint (pc' := 4) (kf := 8) hM eX7_chart_1 rfl (by decide) q797 ?_
  refine aw_bipush (pc' := 6) (v := 6) eX7_chart_4 rfl (by decide) ?_
  refine aw_icmp_ne (pc' := 9) (tgt := 12) eX7_chart_6 rfl (by decide) (fun c_6 => ?_) (fun c_6 => ?_)
  · have hne : c ≠ 6 := fun z => c_6 (by rw [hc, z]; rfl)
    refine aw_aload_n (pc' := 13) eX7_chart_12 rfl rfl trivial ?_
    refine aw_aload_n (pc' := 14) eX7_chart_13 rfl rfl trivial ?_
    refine aw_Mint (pc' := 17) (kf := 5) hM eX7_chart_14 rfl (by decide) q794 ?_
    refine aw_Mput (pc' := 20) 10 hM eX7_chart_17 rfl (by decide) (fun z => absurd z (by decide)) q799 (fun h3 hM1 hs2 => ?_)
    refine aw_iconst (pc' := 21) (v := 0) eX7_chart_20 rfl (by decide) ?_
    refine aw_istore_n (pc' := 22) eX7_chart_21 rfl (by decide) ?_
    dsimp only [zst, zst2, zcut]
    refine lp1_X7_chart (V := msc U 10 (U.2.1 5)) (n := a) hs5 ha (fun h1 y1 m1 s1 => ?_) a 0 _ _ (by omega) (by omega) rfl (MAt.id (j := 7) hM1 fun q hq => (if_neg (show ¬ q < 0 by omega)).symm) hs2
    refine aw_aload_n (pc' := 49) eX7_chart_48 rfl rfl trivial ?_
    refine aw_iconst (pc' := 50) (v := 0) eX7_chart_49 rfl (by decide) ?_
    refine aw_Mput (pc' := 53) 5 m1 eX7_chart_50 rfl (by decide) (fun z => absurd z (by decide)) q794 (fun h3 hM1 hs2 => ?_)
    have hT4 := s1.tr hs2
    refine aw_aload_n (pc' := 54) eX7_chart_53 rfl rfl trivial ?_
    refine aw_callv (pc' := 57) (nn := 0) (c_X7_readAll (d := d - 1) hM1 (n := a) ⟨hs5, ha⟩ (by omega)) eX7_chart_54 rfl ⟨q913, q916, q62⟩ q915 q25 ⟨rfl, by decide +kernel, by decide +kernel, by decide +kernel⟩ rfl (by rw [hM1.2.1]; exact ⟨rfl, rfl⟩) rfl ⟨by omega, by decide⟩ ⟨by omega, by omega⟩ rfl (Nat.le_of_ble_eq_true rfl) (fun v5 h6 hq7 => ?_)
    obtain ⟨rfl, k7, m7, s7⟩ := hq7
    have hT8 := hT4.tr s7
    dsimp only [Option.toList, List.cons_append, List.nil_append]
    have eR : pRA (fun q => if q < a then U.1 4 q else U.1 7 q) a (U.1 9) (U.1 8) (U.1 10) = (pRA (U.1 4) a (U.1 9) (U.1 8) (U.1 10)) := pRA_ext (fun k hk => if_pos hk) (fun _ _ => rfl)
    have eR' : pRA ((msc (mset (msc U 10 (U.2.1 5)) 7 (fun q => if q < a then (msc U 10 (U.2.1 5)).1 4 q else (msc U 10 (U.2.1 5)).1 7 q)) 5 0).1 7) a ((msc (mset (msc U 10 (U.2.1 5)) 7 (fun q => if q < a then (msc U 10 (U.2.1 5)).1 4 q else (msc U 10 (U.2.1 5)).1 7 q)) 5 0).1 9) ((msc (mset (msc U 10 (U.2.1 5)) 7 (fun q => if q < a then (msc U 10 (U.2.1 5)).1 4 q else (msc U 10 (U.2.1 5)).1 7 q)) 5 0).1 8) ((msc (mset (msc U 10 (U.2.1 5)) 7 (fun q => if q < a then (msc U 10 (U.2.1 5)).1 4 q else (msc U 10 (U.2.1 5)).1 7 q)) 5 0).1 10) = (pRA (U.1 4) a (U.1 9) (U.1 8) (U.1 10)) := eR
    rw [eR'] at m7 ⊢
    refine aw_if_ne (pc' := 60) (tgt := 68) eX7_chart_57 rfl (by decide) (fun c_57 => ?_) (fun c_57 => ?_)
    · refine aw_iconst (pc' := 69) (v := 0) eX7_chart_68 rfl (by decide) ?_
      refine aw_istore_n (pc' := 70) eX7_chart_69 rfl (by decide) ?_
      dsimp only [zst, zst2, zcut]
      have g57 : pGood a (pRA (U.1 4) a (U.1 9) (U.1 8) (U.1 10)) = true := by have z := c_57; (try simp only [zb_eq0, Bool.not_eq_false, Bool.not_eq_true, decide_eq_true_eq, decide_eq_false_iff_not, Decidable.not_not] at z); exact z
      refine lp2_X7_chart (V := mp (wk (sr (msc (mset (msc U 10 (U.2.1 5)) 7 (fun q => if q < a then (msc U 10 (U.2.1 5)).1 4 q else (msc U 10 (U.2.1 5)).1 7 q)) 5 0) (pRA (U.1 4) a (U.1 9) (U.1 8) (U.1 10)).2.1 (pRA (U.1 4) a (U.1 9) (U.1 8) (U.1 10)).2.2) k7) (pRA (U.1 4) a (U.1 9) (U.1 8) (U.1 10)).1) (n := a) (c := c) hc (by omega) hs5 ha (fun h9 y9 m9 s9 => ?_) a 0 _ _ (by omega) (by omega) rfl (MAt.id (j := 5) m7 fun q hq => (if_neg (show ¬ (100 * c ≤ q ∧ q < 100 * c + 0) by omega)).symm) hT8
      refine aw_aload_n (pc' := 105) eX7_chart_104 rfl rfl trivial ?_
      refine aw_Mref (pc' := 108) (kf := 7) 6 m9 eX7_chart_105 rfl (by decide) rfl q796 ?_
      refine aw_aload_n (pc' := 109) eX7_chart_108 rfl rfl trivial ?_
      refine aw_Mint (pc' := 112) (kf := 8) m9 eX7_chart_109 rfl (by decide) q797 ?_
      refine aw_aload_n (pc' := 113) eX7_chart_112 rfl rfl trivial ?_
      refine aw_Mint (pc' := 116) (kf := 10) m9 eX7_chart_113 rfl (by decide) q799 ?_
      refine aw_MastC (pc' := 117) 6 c m9 eX7_chart_116 rfl (by decide) (vpE (N := 6) hc (by omega) (by omega)) (clE hc (by omega)) (fun h3 hM1 hs2 => ?_)
      have hT4 := s9.tr hs2
      refine aw_aload_n (pc' := 118) eX7_chart_117 rfl rfl trivial ?_
      refine aw_dup (pc' := 119) eX7_chart_118 rfl rfl ?_
      refine aw_Mint (pc' := 122) (kf := 8) hM1 eX7_chart_119 rfl (by decide) q797 ?_
      refine aw_iconst (pc' := 123) (v := 1) eX7_chart_122 rfl (by decide) ?_
      refine aw_iadd (pc' := 124) eX7_chart_123 rfl ?_
      refine aw_Mput (pc' := 127) 8 hM1 eX7_chart_124 rfl (by decide) (fun z => absurd z (by decide)) q797 (fun h7 hM5 hs6 => ?_)
      have hT8 := hT4.tr hs6
      refine aw_aload_n (pc' := 128) eX7_chart_127 rfl rfl trivial ?_
      refine aw_Mref (pc' := 131) (kf := 0) 1 hM5 eX7_chart_128 rfl (by decide) rfl q789 ?_
      refine aw_bipush (pc' := 133) (v := 68) eX7_chart_131 rfl (by decide) ?_
      refine aw_aload_n (pc' := 134) eX7_chart_133 rfl rfl trivial ?_
      refine aw_Mint (pc' := 137) (kf := 8) hM5 eX7_chart_134 rfl (by decide) q797 ?_
      refine aw_MastC (pc' := 138) 1 68 hM5 eX7_chart_137 rfl (by decide) (by unfold vp_in; decide) (by decide) (fun h11 hM9 hs10 => ?_)
      have hT12 := hT8.tr hs10
      refine aw_aload_n (pc' := 139) eX7_chart_138 rfl rfl trivial ?_
      refine aw_Mint (pc' := 142) (kf := 8) hM9 eX7_chart_139 rfl (by decide) q797 ?_
      refine aw_iconst (pc' := 143) (v := 1) eX7_chart_142 rfl (by decide) ?_
      refine aw_isub (pc' := 144) eX7_chart_143 rfl ?_
      refine aw_ret (v := some (.int _)) eX7_chart_144 ⟨rfl, rfl⟩ (by omega) (by omega) rfl ?_
      refine ⟨_, hM9, ?_, hT12⟩
      rw [if_neg (by rw [hc]; exact fun z => hne ((nI_eq (b := 6) (by omega) (by omega)).mp z)), if_pos g57]
      have e8 : U.2.1 8 + 1 = nI (c + 1) := by rw [hc]; exact nI_1 c
      refine ⟨?_, fun j h1 h5 h6 h7 => ?_, ?_, fun q hq => ?_, ?_, fun k hk h5 h8 => ?_, rfl, ?_, rfl⟩
      · show some (Value.int (U.2.1 8 + 1 - 1)) = _
        rw [e8, nI_m1]
      · show (if j = 1 then _ else if j = 6 then _ else if j = 5 then _ else if j = 7 then _ else U.1 j) = _
        rw [if_neg h1, if_neg h6, if_neg h5, if_neg h7]
      · show upd (U.1 1) 68 (U.2.1 8 + 1) = _
        rw [e8]
      · show (if 100 * c ≤ q ∧ q < 100 * c + a then (if q - 100 * c < a then U.1 4 (q - 100 * c) else _) else U.1 5 q) = _
        by_cases e : 100 * c ≤ q ∧ q < 100 * c + a
        · rw [if_pos e, if_pos e, if_pos (by omega)]
        · rw [if_neg e, if_neg e]
      · show upd (U.1 6) c (U.2.1 5) = _
        rw [hs5]
      · show (if k = 8 then _ else if k = 11 then _ else if k = 12 then _ else if k = 13 then _ else if k = 15 then _ else if k = 14 then _ else if k = 5 then _ else if k = 10 then _ else U.2.1 k) = _
        rw [if_neg h8, if_neg (by omega), if_neg (by omega), if_neg (by omega), if_neg (by omega), if_neg (by omega), if_neg h5, if_neg (by omega)]
      · show U.2.1 8 + 1 = _
        rw [e8]
    · refine aw_bipush (pc' := 62) (v := -10) eX7_chart_60 rfl (by decide) ?_
      refine aw_aload_n (pc' := 63) eX7_chart_62 rfl rfl trivial ?_
      refine aw_Mint (pc' := 66) (kf := 11) m7 eX7_chart_63 rfl (by decide) q800 ?_
      refine aw_isub (pc' := 67) eX7_chart_66 rfl ?_
      refine aw_ret (v := some (.int _)) eX7_chart_67 ⟨rfl, rfl⟩ (by omega) (by omega) rfl ?_
      have g57 : pGood a (pRA (U.1 4) a (U.1 9) (U.1 8) (U.1 10)) = false := by have z := c_57; (try simp only [zb_eq0, Bool.not_eq_false, Bool.not_eq_true, decide_eq_true_eq, decide_eq_false_iff_not, Decidable.not_not] at z); exact z
      refine ⟨_, m7, ?_, hT8⟩
      rw [if_neg (by rw [hc]; exact fun z => hne ((nI_eq (b := 6) (by omega) (by omega)).mp z)), if_neg (by rw [g57]; decide)]
      refine ⟨rfl, fun j hj => ?_, fun k hk h5 => ?_, rfl, rfl⟩
      · show (if j = 7 then _ else U.1 j) = _
        rw [if_neg hj]
      · show (if k = 11 then _ else if k = 12 then _ else if k = 13 then _ else if k = 15 then _ else if k = 14 then _ else if k = 5 then _ else if k = 10 then _ else U.2.1 k) = _
        rw [if_neg (by omega), if_neg (by omega), if_neg (by omega), if_neg (by omega), if_neg (by omega), if_neg h5, if_neg (by omega)]
  · refine aw_bipush (pc' := 11) (v := -4) eX7_chart_9 rfl (by decide) ?_
    refine aw_ret (v := some (.int _)) eX7_chart_11 ⟨rfl, rfl⟩ (by omega) (by omega) rfl ?_
    exact ⟨U, hM, by rw [if_pos (by first | exact c_6 | exact Decidable.not_not.mp c_6)]; exact ⟨rfl, rfl⟩, Same.rf⟩
end M25
