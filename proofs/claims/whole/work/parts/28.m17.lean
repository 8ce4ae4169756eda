/-! the model: by which current, after whom -/
section M17
variable {l : Launch} {G : GT} {u : Nat} {U U1 : MS} {d n m t : Nat} {g : Nat → Int32} {h : Hp} {Q : Option Value → Hp → Prop}
/-- the row with all currents c -/
def sCur (g : Nat → Int32) (c : Int32) : Nat → Int32 := fun j => if 63 ≤ j ∧ j < 67 then c else g j
theorem sCur_ne {g : Nat → Int32} {c : Int32} {j : Nat} (h : j < 63 ∨ 67 ≤ j) : sCur g c j = g j := if_neg (by omega)
theorem sCur_ok {g : Nat → Int32} {c : Int32} (hg : gOk g m t) : gOk (sCur g c) m t := gOk_of hg (sCur_ne (by omega)) (sCur_ne (by omega)) (sCur_ne (by omega))
def sBlow (F : FT) (g : Nat → Int32) (m t i : Nat) : Nat → Int32 × Int32
  | 0 => (-5, 1000)
  | c + 1 => (if sLate (sCome F m 3 i 61 0 t (sCur g (nI c))) < (sBlow F g m t i c).2 then nI c else (sBlow F g m t i c).1, if (sBlow F g m t i c).2 < sLate (sCome F m 3 i 61 0 t (sCur g (nI c))) then (sBlow F g m t i c).2 else sLate (sCome F m 3 i 61 0 t (sCur g (nI c))))
def sNews (F : FT) (g : Nat → Int32) (m t i : Nat) : Nat → Int32 × Int32
  | 0 => (-5, sLate (sCome F m 2 i 61 0 t g))
  | k + 1 => if g (10 * k + 3) = 0 then (if sLate (sCome F m 2 i 61 0 t (sSays g k)) < (sNews F g m t i k).2 then nI k else (sNews F g m t i k).1, if (sNews F g m t i k).2 < sLate (sCome F m 2 i 61 0 t (sSays g k)) then (sNews F g m t i k).2 else sLate (sCome F m 2 i 61 0 t (sSays g k))) else sNews F g m t i k
theorem MK.ha {g : Nat → Int32} {U U1 : MS} {f : Nat → Int32} (a : MK n g U U1) (hn : 2 ≤ n) : MK n g U (mset U1 11 f) :=
  ⟨by rw [mset_ne (by decide)]; exact a.1, fun j hj => by rw [mset_ne (by unfold msv at hj; omega)]; exact a.2.1 j hj, a.2.2⟩
theorem MK.rf0 {U : MS} : MK n (U.1 1) U U := ⟨rfl, fun _ _ => rfl, fun _ _ => rfl, rfl⟩
theorem MK.ret {g g' : Nat → Int32} {U U1 U2 : MS} {f : Nat → Int32} (a : MK n g U U1) (hn : 2 ≤ n) (b : MK 1 g' (mset U1 11 f) U2) (g2 : Nat → Int32) : MK n g2 U (mset U2 1 g2) :=
  ((a.ha (f := f) hn).tr (b.le (n' := n) (by omega))).mg
theorem nI_63 {k : Nat} (hk : k < 60) : (63 + nI k).toNatClampNeg = 63 + k ∧ vp_in (63 + nI k) 123 := ixa (c := 63) (by omega)

abbrev mX7_blow : MT := (RX7, cX7_blow, 6, (some .int), false)
theorem eX7_blow_0 : decode mX7_blow.2.1 0 = .ok (.iconst 0, 1) := by decide +kernel
theorem eX7_blow_1 : decode mX7_blow.2.1 1 = .ok (.istore_n 2, 1) := by decide +kernel
theorem eX7_blow_2 : decode mX7_blow.2.1 2 = .ok (.iload_n 2, 1) := by decide +kernel
theorem eX7_blow_3 : decode mX7_blow.2.1 3 = .ok (.iconst 4, 1) := by decide +kernel
theorem eX7_blow_4 : decode mX7_blow.2.1 4 = .ok (.if_icmp .ge 24, 3) := by decide +kernel
theorem eX7_blow_7 : decode mX7_blow.2.1 7 = .ok (.aload_n 0, 1) := by decide +kernel
theorem eX7_blow_8 : decode mX7_blow.2.1 8 = .ok (.getfield 47, 3) := by decide +kernel
theorem eX7_blow_11 : decode mX7_blow.2.1 11 = .ok (.iload_n 2, 1) := by decide +kernel
theorem eX7_blow_12 : decode mX7_blow.2.1 12 = .ok (.aload_n 0, 1) := by decide +kernel
theorem eX7_blow_13 : decode mX7_blow.2.1 13 = .ok (.getfield 15, 3) := by decide +kernel
theorem eX7_blow_16 : decode mX7_blow.2.1 16 = .ok (.bipush 63, 2) := by decide +kernel
theorem eX7_blow_18 : decode mX7_blow.2.1 18 = .ok (.iload_n 2, 1) := by decide +kernel
theorem eX7_blow_19 : decode mX7_blow.2.1 19 = .ok (.iadd, 1) := by decide +kernel
theorem eX7_blow_20 : decode mX7_blow.2.1 20 = .ok (.iaload, 1) := by decide +kernel
theorem eX7_blow_21 : decode mX7_blow.2.1 21 = .ok (.iastore, 1) := by decide +kernel
theorem eX7_blow_22 : decode mX7_blow.2.1 22 = .ok (.iinc 2 1, 3) := by decide +kernel
theorem eX7_blow_25 : decode mX7_blow.2.1 25 = .ok (.goto (-23), 3) := by decide +kernel
theorem eX7_blow_28 : decode mX7_blow.2.1 28 = .ok (.bipush (-5), 2) := by decide +kernel
theorem eX7_blow_30 : decode mX7_blow.2.1 30 = .ok (.istore_n 2, 1) := by decide +kernel
theorem eX7_blow_31 : decode mX7_blow.2.1 31 = .ok (.sipush 1000, 3) := by decide +kernel
theorem eX7_blow_34 : decode mX7_blow.2.1 34 = .ok (.istore_n 3, 1) := by decide +kernel
theorem eX7_blow_35 : decode mX7_blow.2.1 35 = .ok (.iconst 0, 1) := by decide +kernel
theorem eX7_blow_36 : decode mX7_blow.2.1 36 = .ok (.istore 4, 2) := by decide +kernel
theorem eX7_blow_38 : decode mX7_blow.2.1 38 = .ok (.iload 4, 2) := by decide +kernel
theorem eX7_blow_40 : decode mX7_blow.2.1 40 = .ok (.bipush 10, 2) := by decide +kernel
theorem eX7_blow_42 : decode mX7_blow.2.1 42 = .ok (.if_icmp .ge 67, 3) := by decide +kernel
theorem eX7_blow_45 : decode mX7_blow.2.1 45 = .ok (.iconst 0, 1) := by decide +kernel
theorem eX7_blow_46 : decode mX7_blow.2.1 46 = .ok (.istore 5, 2) := by decide +kernel
theorem eX7_blow_48 : decode mX7_blow.2.1 48 = .ok (.iload 5, 2) := by decide +kernel
theorem eX7_blow_50 : decode mX7_blow.2.1 50 = .ok (.iconst 4, 1) := by decide +kernel
theorem eX7_blow_51 : decode mX7_blow.2.1 51 = .ok (.if_icmp .ge 21, 3) := by decide +kernel
theorem eX7_blow_54 : decode mX7_blow.2.1 54 = .ok (.aload_n 0, 1) := by decide +kernel
theorem eX7_blow_55 : decode mX7_blow.2.1 55 = .ok (.getfield 15, 3) := by decide +kernel
theorem eX7_blow_58 : decode mX7_blow.2.1 58 = .ok (.bipush 63, 2) := by decide +kernel
theorem eX7_blow_60 : decode mX7_blow.2.1 60 = .ok (.iload 5, 2) := by decide +kernel
theorem eX7_blow_62 : decode mX7_blow.2.1 62 = .ok (.iadd, 1) := by decide +kernel
theorem eX7_blow_63 : decode mX7_blow.2.1 63 = .ok (.iload 4, 2) := by decide +kernel
theorem eX7_blow_65 : decode mX7_blow.2.1 65 = .ok (.iastore, 1) := by decide +kernel
theorem eX7_blow_66 : decode mX7_blow.2.1 66 = .ok (.iinc 5 1, 3) := by decide +kernel
theorem eX7_blow_69 : decode mX7_blow.2.1 69 = .ok (.goto (-21), 3) := by decide +kernel
theorem eX7_blow_72 : decode mX7_blow.2.1 72 = .ok (.aload_n 0, 1) := by decide +kernel
theorem eX7_blow_73 : decode mX7_blow.2.1 73 = .ok (.iload_n 1, 1) := by decide +kernel
theorem eX7_blow_74 : decode mX7_blow.2.1 74 = .ok (.iconst 3, 1) := by decide +kernel
theorem eX7_blow_75 : decode mX7_blow.2.1 75 = .ok (.invokevirtual 102, 3) := by decide +kernel
theorem eX7_blow_78 : decode mX7_blow.2.1 78 = .ok (.invokestatic 203, 3) := by decide +kernel
theorem eX7_blow_81 : decode mX7_blow.2.1 81 = .ok (.istore 5, 2) := by decide +kernel
theorem eX7_blow_83 : decode mX7_blow.2.1 83 = .ok (.iload 5, 2) := by decide +kernel
theorem eX7_blow_85 : decode mX7_blow.2.1 85 = .ok (.iload_n 3, 1) := by decide +kernel
theorem eX7_blow_86 : decode mX7_blow.2.1 86 = .ok (.if_icmp .ge 8, 3) := by decide +kernel
theorem eX7_blow_89 : decode mX7_blow.2.1 89 = .ok (.iload 4, 2) := by decide +kernel
theorem eX7_blow_91 : decode mX7_blow.2.1 91 = .ok (.goto 4, 3) := by decide +kernel
theorem eX7_blow_94 : decode mX7_blow.2.1 94 = .ok (.iload_n 2, 1) := by decide +kernel
theorem eX7_blow_95 : decode mX7_blow.2.1 95 = .ok (.istore_n 2, 1) := by decide +kernel
theorem eX7_blow_96 : decode mX7_blow.2.1 96 = .ok (.iload 5, 2) := by decide +kernel
theorem eX7_blow_98 : decode mX7_blow.2.1 98 = .ok (.iload_n 3, 1) := by decide +kernel
theorem eX7_blow_99 : decode mX7_blow.2.1 99 = .ok (.invokestatic 186, 3) := by decide +kernel
theorem eX7_blow_102 : decode mX7_blow.2.1 102 = .ok (.istore_n 3, 1) := by decide +kernel
theorem eX7_blow_103 : decode mX7_blow.2.1 103 = .ok (.iinc 4 1, 3) := by decide +kernel
theorem eX7_blow_106 : decode mX7_blow.2.1 106 = .ok (.goto (-68), 3) := by decide +kernel
theorem eX7_blow_109 : decode mX7_blow.2.1 109 = .ok (.iconst 0, 1) := by decide +kernel
theorem eX7_blow_110 : decode mX7_blow.2.1 110 = .ok (.istore 4, 2) := by decide +kernel
theorem eX7_blow_112 : decode mX7_blow.2.1 112 = .ok (.iload 4, 2) := by decide +kernel
theorem eX7_blow_114 : decode mX7_blow.2.1 114 = .ok (.iconst 4, 1) := by decide +kernel
theorem eX7_blow_115 : decode mX7_blow.2.1 115 = .ok (.if_icmp .ge 26, 3) := by decide +kernel
theorem eX7_blow_118 : decode mX7_blow.2.1 118 = .ok (.aload_n 0, 1) := by decide +kernel
theorem eX7_blow_119 : decode mX7_blow.2.1 119 = .ok (.getfield 15, 3) := by decide +kernel
theorem eX7_blow_122 : decode mX7_blow.2.1 122 = .ok (.bipush 63, 2) := by decide +kernel
theorem eX7_blow_124 : decode mX7_blow.2.1 124 = .ok (.iload 4, 2) := by decide +kernel
theorem eX7_blow_126 : decode mX7_blow.2.1 126 = .ok (.iadd, 1) := by decide +kernel
theorem eX7_blow_127 : decode mX7_blow.2.1 127 = .ok (.aload_n 0, 1) := by decide +kernel
theorem eX7_blow_128 : decode mX7_blow.2.1 128 = .ok (.getfield 47, 3) := by decide +kernel
theorem eX7_blow_131 : decode mX7_blow.2.1 131 = .ok (.iload 4, 2) := by decide +kernel
theorem eX7_blow_133 : decode mX7_blow.2.1 133 = .ok (.iaload, 1) := by decide +kernel
theorem eX7_blow_134 : decode mX7_blow.2.1 134 = .ok (.iastore, 1) := by decide +kernel
theorem eX7_blow_135 : decode mX7_blow.2.1 135 = .ok (.iinc 4 1, 3) := by decide +kernel
theorem eX7_blow_138 : decode mX7_blow.2.1 138 = .ok (.goto (-26), 3) := by decide +kernel
theorem eX7_blow_141 : decode mX7_blow.2.1 141 = .ok (.iload_n 2, 1) := by decide +kernel
theorem eX7_blow_142 : decode mX7_blow.2.1 142 = .ok (.ireturn, 1) := by decide +kernel
theorem sCur_sCur (g : Nat → Int32) (c x : Int32) : sCur (sCur g c) x = sCur g x := by
  funext j
  unfold sCur
  by_cases h : 63 ≤ j ∧ j < 67
  · rw [if_pos h, if_pos h]
  · rw [if_neg h, if_neg h, if_neg h]
theorem lp1_X7_blow {V : MS} {x1 : Int32} {o3 o4 o5 : Option Value} {h0 : Hp} (hQ : ∀ h' y', MAt h' u (mset V 11 (fun q => if q < 4 then V.1 1 (63 + q) else V.1 11 q)) → Same u 19 h0 h' → AW l G mX7_blow d 0 0 Q 0 0 h' [some (.ref u), some (.int x1), some (.int y'), o3, o4, o5] [] 28) : ∀ (j k : Nat) (y : Int32) (h : Hp), j = 4 - k → k ≤ 4 → y = nI k → MAt h u (mset V 11 (fun q => if q < k then V.1 1 (63 + q) else V.1 11 q)) → Same u 19 h0 h → AW l G mX7_blow d 0 0 Q 0 0 h [some (.ref u), some (.int x1), some (.int y), o3, o4, o5] [] 2 := by
  intro j
  induction j using Nat.strongRecOn with
  | _ j ih =>
    intro k y h hj hk hy hM hs
    subst hy
    refine aw_iload_n (pc' := 3) eX7_blow_2 rfl rfl ?_
    refine aw_iconst (pc' := 4) (v := 4) eX7_blow_3 rfl (by decide) ?_
    refine aw_icmp_ge (pc' := 7) (tgt := 28) eX7_blow_4 rfl (by decide) (fun c_4 => ?_) (fun c_4 => ?_)
    · have c9 : 4 ≤ k := ge_nI (b := 4) (by omega) (by omega) c_4
      obtain rfl : k = 4 := by omega
      exact hQ _ _ hM hs
    · have c9 : k < 4 := nge_nI (b := 4) (by omega) (by omega) c_4
      refine aw_aload_n (pc' := 8) eX7_blow_7 rfl rfl trivial ?_
      refine aw_Mref (pc' := 11) (kf := 19) 11 hM eX7_blow_8 rfl (by decide) rfl q808 ?_
      refine aw_iload_n (pc' := 12) eX7_blow_11 rfl rfl ?_
      refine aw_aload_n (pc' := 13) eX7_blow_12 rfl rfl trivial ?_
      refine aw_Mref (pc' := 16) (kf := 0) 1 hM eX7_blow_13 rfl (by decide) rfl q789 ?_
      refine aw_bipush (pc' := 18) (v := 63) eX7_blow_16 rfl (by decide) ?_
      refine aw_iload_n (pc' := 19) eX7_blow_18 rfl rfl ?_
      refine aw_iadd (pc' := 20) eX7_blow_19 rfl ?_
      refine aw_MaldC (pc' := 21) 1 (63 + k) hM eX7_blow_20 rfl (by decide) (nI_63 (k := k) (by omega)).2 (nI_63 (k := k) (by omega)).1 ?_
      refine aw_MastC (pc' := 22) 11 k hM eX7_blow_21 rfl (by decide) (show vp_in _ 4 from vp_in_nI (by omega) (by omega)) (nI_clamp (by omega)) (fun h3 hM1 hs2 => ?_)
      refine aw_iinc (pc' := 25) eX7_blow_22 rfl rfl rfl (by decide) ?_
      dsimp only [zst, zst2, zcut]
      refine aw_goto eX7_blow_25 (by decide) (tgt := 2) ?_
      refine ih (4 - (k + 1)) (by omega) (k + 1) _ _ rfl (by omega) (nI_inc k) ?_ (hs.tr hs2)
      have hM9 := hM1
      rw [mup_mset, mset_set, mset_eq] at hM9
      refine hM9.gs fun q hq => ?_
      rw [upd_if]
      show (if q = k then V.1 1 (63 + k) else if q < k then V.1 1 (63 + q) else V.1 11 q) = _
      by_cases e : q = k
      · rw [if_pos e, if_pos (by omega), e]
      · rw [if_neg e]
        by_cases e2 : q < k
        · rw [if_pos e2, if_pos (by omega)]
        · rw [if_neg e2, if_neg (by omega)]
theorem lp2_X7_blow {V : MS} {g : Nat → Int32} {c : Int32} {o1 o2 o3 : Option Value} {h0 : Hp} (hQ : ∀ h' y', MAt h' u (mg V (sCur g c)) → Same u 19 h0 h' → AW l G mX7_blow d 0 0 Q 0 0 h' [some (.ref u), o1, o2, o3, some (.int c), some (.int y')] [] 72) : ∀ (j k : Nat) (y : Int32) (h : Hp), j = 4 - k → k ≤ 4 → y = nI k → MAt h u (mg V (fun q => if 63 ≤ q ∧ q < 63 + k then c else g q)) → Same u 19 h0 h → AW l G mX7_blow d 0 0 Q 0 0 h [some (.ref u), o1, o2, o3, some (.int c), some (.int y)] [] 48 := by
  intro j
  induction j using Nat.strongRecOn with
  | _ j ih =>
    intro k y h hj hk hy hM hs
    subst hy
    refine aw_iload (pc' := 50) eX7_blow_48 rfl rfl ?_
    refine aw_iconst (pc' := 51) (v := 4) eX7_blow_50 rfl (by decide) ?_
    refine aw_icmp_ge (pc' := 54) (tgt := 72) eX7_blow_51 rfl (by decide) (fun c_51 => ?_) (fun c_51 => ?_)
    · have c9 : 4 ≤ k := ge_nI (b := 4) (by omega) (by omega) c_51
      obtain rfl : k = 4 := by omega
      exact hQ _ _ hM hs
    · have c9 : k < 4 := nge_nI (b := 4) (by omega) (by omega) c_51
      refine aw_aload_n (pc' := 55) eX7_blow_54 rfl rfl trivial ?_
      refine aw_Mref (pc' := 58) (kf := 0) 1 hM eX7_blow_55 rfl (by decide) rfl q789 ?_
      refine aw_bipush (pc' := 60) (v := 63) eX7_blow_58 rfl (by decide) ?_
      refine aw_iload (pc' := 62) eX7_blow_60 rfl rfl ?_
      refine aw_iadd (pc' := 63) eX7_blow_62 rfl ?_
      refine aw_iload (pc' := 65) eX7_blow_63 rfl rfl ?_
      refine aw_MastC (pc' := 66) 1 (63 + k) hM eX7_blow_65 rfl (by decide) (nI_63 (k := k) (by omega)).2 (nI_63 (k := k) (by omega)).1 (fun h3 hM1 hs2 => ?_)
      refine aw_iinc (pc' := 69) eX7_blow_66 rfl rfl rfl (by decide) ?_
      dsimp only [zst, zst2, zcut]
      refine aw_goto eX7_blow_69 (by decide) (tgt := 48) ?_
      refine ih (4 - (k + 1)) (by omega) (k + 1) _ _ rfl (by omega) (nI_inc k) ?_ (hs.tr hs2)
      have hM9 := hM1
      rw [mup_mg, mg_mg, mg_1] at hM9
      refine hM9.gx fun q hq => ?_
      rw [upd_if]
      show (if q = 63 + k then c else if 63 ≤ q ∧ q < 63 + k then c else g q) = _
      by_cases e : q = 63 + k
      · rw [if_pos e, if_pos (by omega)]
      · rw [if_neg e]
        by_cases e2 : 63 ≤ q ∧ q < 63 + k
        · rw [if_pos e2, if_pos (by omega)]
        · rw [if_neg e2, if_neg (by omega)]
theorem lp3_X7_blow {V : MS} {g : Nat → Int32} {x3 : Int32} {o1 o2 o5 : Option Value} {h0 : Hp} (hQ : ∀ h' y', MAt h' u (mg V (fun q => if 63 ≤ q ∧ q < 67 then V.1 11 (q - 63) else g q)) → Same u 19 h0 h' → AW l G mX7_blow d 0 0 Q 0 0 h' [some (.ref u), o1, o2, some (.int x3), some (.int y'), o5] [] 141) : ∀ (j k : Nat) (y : Int32) (h : Hp), j = 4 - k → k ≤ 4 → y = nI k → MAt h u (mg V (fun q => if 63 ≤ q ∧ q < 63 + k then V.1 11 (q - 63) else g q)) → Same u 19 h0 h → AW l G mX7_blow d 0 0 Q 0 0 h [some (.ref u), o1, o2, some (.int x3), some (.int y), o5] [] 112 := by
  intro j
  induction j using Nat.strongRecOn with
  | _ j ih =>
    intro k y h hj hk hy hM hs
    subst hy
    refine aw_iload (pc' := 114) eX7_blow_112 rfl rfl ?_
    refine aw_iconst (pc' := 115) (v := 4) eX7_blow_114 rfl (by decide) ?_
    refine aw_icmp_ge (pc' := 118) (tgt := 141) eX7_blow_115 rfl (by decide) (fun c_115 => ?_) (fun c_115 => ?_)
    · have c9 : 4 ≤ k := ge_nI (b := 4) (by omega) (by omega) c_115
      obtain rfl : k = 4 := by omega
      exact hQ _ _ hM hs
    · have c9 : k < 4 := nge_nI (b := 4) (by omega) (by omega) c_115
      refine aw_aload_n (pc' := 119) eX7_blow_118 rfl rfl trivial ?_
      refine aw_Mref (pc' := 122) (kf := 0) 1 hM eX7_blow_119 rfl (by decide) rfl q789 ?_
      refine aw_bipush (pc' := 124) (v := 63) eX7_blow_122 rfl (by decide) ?_
      refine aw_iload (pc' := 126) eX7_blow_124 rfl rfl ?_
      refine aw_iadd (pc' := 127) eX7_blow_126 rfl ?_
      refine aw_aload_n (pc' := 128) eX7_blow_127 rfl rfl trivial ?_
      refine aw_Mref (pc' := 131) (kf := 19) 11 hM eX7_blow_128 rfl (by decide) rfl q808 ?_
      refine aw_iload (pc' := 133) eX7_blow_131 rfl rfl ?_
      refine aw_MaldC (pc' := 134) 11 k hM eX7_blow_133 rfl (by decide) (show vp_in _ 4 from vp_in_nI (by omega) (by omega)) (nI_clamp (by omega)) ?_
      refine aw_MastC (pc' := 135) 1 (63 + k) hM eX7_blow_134 rfl (by decide) (nI_63 (k := k) (by omega)).2 (nI_63 (k := k) (by omega)).1 (fun h3 hM1 hs2 => ?_)
      refine aw_iinc (pc' := 138) eX7_blow_135 rfl rfl rfl (by decide) ?_
      dsimp only [zst, zst2, zcut]
      refine aw_goto eX7_blow_138 (by decide) (tgt := 112) ?_
      refine ih (4 - (k + 1)) (by omega) (k + 1) _ _ rfl (by omega) (nI_inc k) ?_ (hs.tr hs2)
      have hM9 := hM1
      rw [mup_mg, mg_mg, mg_1] at hM9
      refine hM9.gx fun q hq => ?_
      rw [upd_if]
      show (if q = 63 + k then V.1 11 k else if 63 ≤ q ∧ q < 63 + k then V.1 11 (q - 63) else g q) = _
      by_cases e : q = 63 + k
      · rw [if_pos e, if_pos (by omega)]
        exact congrArg (V.1 11) (by omega)
      · rw [if_neg e]
        by_cases e2 : 63 ≤ q ∧ q < 63 + k
        · rw [if_pos e2, if_pos (by omega)]
        · rw [if_neg e2, if_neg (by omega)]
theorem lp0_X7_blow {F : FT} (hF : mRd U = F) (hz : mZ U) {g : Nat → Int32} (hg : gOk g m t) {i : Nat} (hi : i < 6) (ht6 : t ≤ 1000000000) (hd : 26 ≤ d) {h0 : Hp} (hQ : ∀ h' U' g' y' o5, MAt h' u U' → MK 1 g' U U' → Same u 19 h0 h' → (∀ x, sCur g' x = sCur g x) → AW l G mX7_blow d 0 0 Q 0 0 h' [some (.ref u), some (.int (nI i)), some (.int (sBlow F g m t i 10).1), some (.int (sBlow F g m t i 10).2), some (.int y'), o5] [] 109) : ∀ (j c : Nat) (y b e : Int32) (o5 : Option Value) (h : Hp) (g' : Nat → Int32) (U1 : MS), j = 10 - c → c ≤ 10 → y = nI c → b = (sBlow F g m t i c).1 → e = (sBlow F g m t i c).2 → MK 1 g' U U1 → (∀ x, sCur g' x = sCur g x) → MAt h u U1 → Same u 19 h0 h → AW l G mX7_blow d 0 0 Q 0 0 h [some (.ref u), some (.int (nI i)), some (.int b), some (.int e), some (.int y), o5] [] 38 := by
  intro j
  induction j using Nat.strongRecOn with
  | _ j ih =>
    intro c y b e o5 h g' U1 hj hc hy hb he hk hgs hM hs
    subst hy hb he
    subst hF
    refine aw_iload (pc' := 40) eX7_blow_38 rfl rfl ?_
    refine aw_bipush (pc' := 42) (v := 10) eX7_blow_40 rfl (by decide) ?_
    refine aw_icmp_ge (pc' := 45) (tgt := 109) eX7_blow_42 rfl (by decide) (fun c_42 => ?_) (fun c_42 => ?_)
    · have c9 : 10 ≤ c := ge_nI (b := 10) (by omega) (by omega) c_42
      obtain rfl : c = 10 := by omega
      exact hQ _ _ _ _ _ hM hk hs hgs
    · have c9 : c < 10 := nge_nI (b := 10) (by omega) (by omega) c_42
      refine aw_iconst (pc' := 46) (v := 0) eX7_blow_45 rfl (by decide) ?_
      refine aw_istore (pc' := 48) eX7_blow_46 rfl (by decide) ?_
      dsimp only [zst, zst2, zcut]
      refine lp2_X7_blow (V := U1) (g := U1.1 1) (c := nI c) (fun h1 y1 m1 s1 => ?_) 4 0 _ _ (by omega) (by omega) rfl (MAt.id (j := 1) hM fun q hq => by rw [if_neg (by omega)]) Same.rf
      have kc : MK 1 (sCur g (nI c)) U (mg U1 (sCur (U1.1 1) (nI c))) := by rw [hk.1, hgs]; exact hk.mg
      refine aw_aload_n (pc' := 73) eX7_blow_72 rfl rfl trivial ?_
      refine aw_iload_n (pc' := 74) eX7_blow_73 rfl rfl ?_
      refine aw_iconst (pc' := 75) (v := 3) eX7_blow_74 rfl (by decide) ?_
      refine aw_callv (pc' := 78) (nn := 2) (c_X7_comes (d := d - 1) kc m1 hz (sCur_ok hg) (n := 1) (by omega) (i := i) (by omega) 3 (by omega) (by omega)) eX7_blow_75 rfl ⟨q966, q969, q62⟩ q968 q38 ⟨rfl, by decide +kernel, by decide +kernel, by decide +kernel⟩ rfl (by rw [m1.2.1]; exact ⟨rfl, rfl⟩) rfl ⟨by omega, by decide⟩ ⟨by omega, by omega⟩ rfl (Nat.le_of_ble_eq_true rfl) (fun v5 h6 hq7 => ?_)
      obtain ⟨rfl, V3, hM1, k4, hs2⟩ := hq7
      have hT8 := s1.tr hs2
      dsimp only [Option.toList, List.cons_append, List.nil_append]
      refine aw_calls (pc' := 81) (nn := 1) (c_X7_late (d := d - 1) _ (by omega)) eX7_blow_78 rfl ⟨q990, q992, q62⟩ q991 ⟨by decide +kernel, by decide +kernel, by decide +kernel⟩ rfl ⟨by omega, by decide⟩ ⟨by omega, by omega⟩ rfl (Nat.le_of_ble_eq_true rfl) (fun v9 h10 hq11 => ?_)
      obtain ⟨rfl, rfl⟩ := hq11
      dsimp only [Option.toList, List.cons_append, List.nil_append]
      refine aw_istore (pc' := 83) eX7_blow_81 rfl (by decide) ?_
      dsimp only [zst, zst2, zcut]
      refine aw_iload (pc' := 85) eX7_blow_83 rfl rfl ?_
      refine aw_iload_n (pc' := 86) eX7_blow_85 rfl rfl ?_
      refine aw_icmp_ge (pc' := 89) (tgt := 94) eX7_blow_86 rfl (by decide) (fun c_86 => ?_) (fun c_86 => ?_)
      · refine aw_iload_n (pc' := 95) eX7_blow_94 rfl rfl ?_
        refine aw_istore_n (pc' := 96) eX7_blow_95 rfl (by decide) ?_
        dsimp only [zst, zst2, zcut]
        refine aw_iload (pc' := 98) eX7_blow_96 rfl rfl ?_
        refine aw_iload_n (pc' := 99) eX7_blow_98 rfl rfl ?_
        refine aw_mmin (pc' := 102) eX7_blow_99 rfl q961 q326 q63 q327 (by omega) ⟨by omega, by omega⟩ (Nat.le_of_ble_eq_true rfl) ?_
        refine aw_istore_n (pc' := 103) eX7_blow_102 rfl (by decide) ?_
        dsimp only [zst, zst2, zcut]
        refine aw_iinc (pc' := 106) eX7_blow_103 rfl rfl rfl (by decide) ?_
        dsimp only [zst, zst2, zcut]
        refine aw_goto eX7_blow_106 (by decide) (tgt := 38) ?_
        exact ih (10 - (c + 1)) (by omega) (c + 1) _ _ _ _ _ _ _ rfl (by omega) (nI_inc c) (show _ = (sBlow (mRd U) g m t i (c + 1)).1 from by rw [sBlow]; exact (if_neg (by first | exact Int32.not_lt.mpr c_86 | exact c_86)).symm) rfl k4 (fun x => sCur_sCur g (nI c) x) hM1 (hs.tr hT8)
      · refine aw_iload (pc' := 91) eX7_blow_89 rfl rfl ?_
        refine aw_goto eX7_blow_91 (by decide) (tgt := 95) ?_
        refine aw_istore_n (pc' := 96) eX7_blow_95 rfl (by decide) ?_
        dsimp only [zst, zst2, zcut]
        refine aw_iload (pc' := 98) eX7_blow_96 rfl rfl ?_
        refine aw_iload_n (pc' := 99) eX7_blow_98 rfl rfl ?_
        refine aw_mmin (pc' := 102) eX7_blow_99 rfl q961 q326 q63 q327 (by omega) ⟨by omega, by omega⟩ (Nat.le_of_ble_eq_true rfl) ?_
        refine aw_istore_n (pc' := 103) eX7_blow_102 rfl (by decide) ?_
        dsimp only [zst, zst2, zcut]
        refine aw_iinc (pc' := 106) eX7_blow_103 rfl rfl rfl (by decide) ?_
        dsimp only [zst, zst2, zcut]
        refine aw_goto eX7_blow_106 (by decide) (tgt := 38) ?_
        exact ih (10 - (c + 1)) (by omega) (c + 1) _ _ _ _ _ _ _ rfl (by omega) (nI_inc c) (show _ = (sBlow (mRd U) g m t i (c + 1)).1 from by rw [sBlow]; exact (if_pos (by first | exact c_86 | exact Int32.not_le.mp c_86)).symm) rfl k4 (fun x => sCur_sCur g (nI c) x) hM1 (hs.tr hT8)
theorem c_X7_blow (hk : MK n g U U1) (hM : MAt h u U1) (hz : mZ U) (hg : gOk g m t) (hn : 2 ≤ n) {i : Nat} (hi : i < 6) (ht6 : t ≤ 1000000000) (hd : 26 ≤ d) : Ct l G mX7_blow yX7_blow d 0 0 [.ref u, .int (nI i)] h (fun r h' => r = some (.int (sBlow (mRd U) g m t i 10).1) ∧ ∃ U', MAt h' u U' ∧ MK n g U U' ∧ Same u 19 h h') := by
  refine ct_of (lv := [some (.ref u), some (.int (nI i)), none, none, none, none]) (by decide +kernel) rfl (fun z => by cases z) (fun _ => rfl) (fun _ => Nat.le_of_ble_eq_true rfl) ?_
  refine aw_iconst (pc' := 1) (v := 0) eX7_blow_0 rfl (by decide) ?_
  refine aw_istore_n (pc' := 2) eX7_blow_1 rfl (by decide) ?_
  dsimp only [zst, zst2, zcut]
  refine lp1_X7_blow (V := U1) (fun h1 y1 m1 s1 => ?_) 4 0 _ _ (by omega) (by omega) rfl (MAt.id hM fun q hq => by rw [if_neg (by omega)]) Same.rf
  have k1 := hk.ha (f := fun q => if q < 4 then U1.1 1 (63 + q) else U1.1 11 q) hn
  refine aw_bipush (pc' := 30) (v := -5) eX7_blow_28 rfl (by decide) ?_
  refine aw_istore_n (pc' := 31) eX7_blow_30 rfl (by decide) ?_
  dsimp only [zst, zst2, zcut]
  refine aw_sipush (pc' := 34) (v := 1000) eX7_blow_31 rfl (by decide) ?_
  refine aw_istore_n (pc' := 35) eX7_blow_34 rfl (by decide) ?_
  dsimp only [zst, zst2, zcut]
  refine aw_iconst (pc' := 36) (v := 0) eX7_blow_35 rfl (by decide) ?_
  refine aw_istore (pc' := 38) eX7_blow_36 rfl (by decide) ?_
  dsimp only [zst, zst2, zcut]
  refine lp0_X7_blow (U := mset U1 11 (fun q => if q < 4 then U1.1 1 (63 + q) else U1.1 11 q)) (F := mRd U) (mRd_K k1) (hz.k k1) (g := g) hg hi ht6 hd (fun h2 V2 g' y' o5 m2 k2 s2 hgs => ?_) 10 0 _ _ _ _ _ _ _ (by omega) (by omega) rfl rfl rfl MK.rf0 (fun x => by rw [show (mset U1 11 (fun q => if q < 4 then U1.1 1 (63 + q) else U1.1 11 q)).1 1 = g from hk.1]) m1 s1
  refine aw_iconst (pc' := 110) (v := 0) eX7_blow_109 rfl (by decide) ?_
  refine aw_istore (pc' := 112) eX7_blow_110 rfl (by decide) ?_
  dsimp only [zst, zst2, zcut]
  refine lp3_X7_blow (V := V2) (g := V2.1 1) (fun h3 y3 m3 s3 => ?_) 4 0 _ _ (by omega) (by omega) rfl (MAt.id (j := 1) m2 fun q hq => by rw [if_neg (by omega)]) s2
  have e11 : V2.1 11 = fun q => if q < 4 then U1.1 1 (63 + q) else U1.1 11 q := by rw [k2.2.1 11 (by unfold msv; omega), mset_eq]
  have eg : (fun q => if 63 ≤ q ∧ q < 67 then V2.1 11 (q - 63) else V2.1 1 q) = g := by
    funext q
    by_cases e : 63 ≤ q ∧ q < 67
    · rw [if_pos e, e11]
      show (if q - 63 < 4 then U1.1 1 (63 + (q - 63)) else _) = _
      rw [if_pos (by omega), show 63 + (q - 63) = q by omega, hk.1]
    · rw [if_neg e, k2.1, ← sCur_ne (c := 0) (g := g') (by omega), hgs, sCur_ne (by omega)]
  rw [eg] at m3
  have kz : MK n g U (mg V2 g) := hk.ret hn k2 g
  refine aw_iload_n (pc' := 142) eX7_blow_141 rfl rfl ?_
  refine aw_ret (v := some (.int _)) eX7_blow_142 ⟨rfl, rfl⟩ (by omega) (by omega) rfl ?_
  exact ⟨rfl, _, m3, kz, s3⟩
end M17
