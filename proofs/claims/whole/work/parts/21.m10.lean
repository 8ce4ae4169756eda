/-! the model's parser: clauses, a whole text -/
section M10
variable {l : Launch} {G : GT} {u : Nat} {U : MS} {d n : Nat} {h : Hp} {Q : Option Value → Hp → Prop}
/-- the model with sum s, room r -/
abbrev sr (U : MS) (s r : Int32) : MS := msc (msc U 14 s) 15 r
theorem sr_sum (U : MS) (s r s' : Int32) (k : Nat) (p : PP) : msc (mp (wk (sr U s r) k) p) 14 s' = mp (wk (sr U s' r) k) p := by
  unfold mp wk sr msc
  congr 2
  funext j
  by_cases h1 : j = 14
  · subst h1; simp
  · by_cases h2 : j = 11 <;> simp [h1, h2]
theorem sr_room (U : MS) (s r r' : Int32) (k : Nat) (p : PP) : msc (mp (wk (sr U s r) k) p) 15 r' = mp (wk (sr U s r') k) p := by
  unfold mp wk sr msc
  congr 2
  funext j
  by_cases h1 : j = 15
  · subst h1; simp
  · by_cases h2 : j = 11 <;> simp [h1, h2]
abbrev CS : Type := PP × Int32 × Int32
def pTl (R : Nat → Int32) (n : Nat) (L N : Nat → Int32) (w : Nat) (c : CS) : CS :=
  if w = 2 then ((pNum R n (pTk R n c.1 32)).2, c.2.1, (pNum R n (pTk R n c.1 32)).1)
  else ((pX R n L N 500 3 0 false (pTk R n (pNum R n (pTk R n c.1 32)).2 32)).2, c.2.1 + (if (pX R n L N 500 3 0 false (pTk R n (pNum R n (pTk R n c.1 32)).2 32)).1 = true then (if w = 0 then (pNum R n (pTk R n c.1 32)).1 else -(pNum R n (pTk R n c.1 32)).1) else 0), c.2.2)
def pWl (R : Nat → Int32) (n : Nat) (W : Nat → Int32) (w : Nat) : Nat → Nat → PP → PP
  | 0, _, p => p
  | j + 1, k, p => if W (5 * w + k) = 0 then p else pWl R n W w j (k + 1) (pTk R n p (W (5 * w + k)))
def pWh (R : Nat → Int32) (n : Nat) (p : PP) : Nat := if pAt R n p 114 = true then 2 else if p.1 + 1 < n ∧ R (p.1 + 1) = 119 then 1 else 0
def pCl (R : Nat → Int32) (n : Nat) (L N W : Nat → Int32) (c : CS) : CS := pTl R n L N (pWh R n c.1) (pWl R n W (pWh R n c.1) 5 0 c.1, c.2)
theorem pWl_le {R : Nat → Int32} {n : Nat} {W : Nat → Int32} {w : Nat} : ∀ (j k : Nat) (p : PP), p.1 ≤ n → (pWl R n W w j k p).1 ≤ n
  | 0, _, _, h => h
  | j + 1, k, p, h => by
    unfold pWl
    split
    · exact h
    · exact pWl_le j (k + 1) _ (pTk_le h)
theorem pTl_le {R : Nat → Int32} {n : Nat} {L N : Nat → Int32} {w : Nat} {c : CS} (h : c.1.1 ≤ n) : (pTl R n L N w c).1.1 ≤ n := by
  unfold pTl
  split
  · exact pNum_le (pTk_le h)
  · exact (pX_mon 500 3 0 false _ (pTk_le (pNum_le (pTk_le h)))).2
theorem pCl_le {R : Nat → Int32} {n : Nat} {L N W : Nat → Int32} {c : CS} (h : c.1.1 ≤ n) : (pCl R n L N W c).1.1 ≤ n := pTl_le (pWl_le 5 0 _ h)

abbrev mX7_clause : MT := (RX7, cX7_clause, 4, none, false)
theorem eX7_clause_0 : decode mX7_clause.2.1 0 = .ok (.aload_n 0, 1) := by decide +kernel
theorem eX7_clause_1 : decode mX7_clause.2.1 1 = .ok (.bipush 114, 2) := by decide +kernel
theorem eX7_clause_3 : decode mX7_clause.2.1 3 = .ok (.invokevirtual 136, 3) := by decide +kernel
theorem eX7_clause_6 : decode mX7_clause.2.1 6 = .ok (.ifCond .eq 7, 3) := by decide +kernel
theorem eX7_clause_9 : decode mX7_clause.2.1 9 = .ok (.iconst 2, 1) := by decide +kernel
theorem eX7_clause_10 : decode mX7_clause.2.1 10 = .ok (.goto 37, 3) := by decide +kernel
theorem eX7_clause_13 : decode mX7_clause.2.1 13 = .ok (.aload_n 0, 1) := by decide +kernel
theorem eX7_clause_14 : decode mX7_clause.2.1 14 = .ok (.getfield 130, 3) := by decide +kernel
theorem eX7_clause_17 : decode mX7_clause.2.1 17 = .ok (.iconst 1, 1) := by decide +kernel
theorem eX7_clause_18 : decode mX7_clause.2.1 18 = .ok (.iadd, 1) := by decide +kernel
theorem eX7_clause_19 : decode mX7_clause.2.1 19 = .ok (.aload_n 0, 1) := by decide +kernel
theorem eX7_clause_20 : decode mX7_clause.2.1 20 = .ok (.getfield 133, 3) := by decide +kernel
theorem eX7_clause_23 : decode mX7_clause.2.1 23 = .ok (.if_icmp .ge 23, 3) := by decide +kernel
theorem eX7_clause_26 : decode mX7_clause.2.1 26 = .ok (.aload_n 0, 1) := by decide +kernel
theorem eX7_clause_27 : decode mX7_clause.2.1 27 = .ok (.getfield 34, 3) := by decide +kernel
theorem eX7_clause_30 : decode mX7_clause.2.1 30 = .ok (.aload_n 0, 1) := by decide +kernel
theorem eX7_clause_31 : decode mX7_clause.2.1 31 = .ok (.getfield 130, 3) := by decide +kernel
theorem eX7_clause_34 : decode mX7_clause.2.1 34 = .ok (.iconst 1, 1) := by decide +kernel
theorem eX7_clause_35 : decode mX7_clause.2.1 35 = .ok (.iadd, 1) := by decide +kernel
theorem eX7_clause_36 : decode mX7_clause.2.1 36 = .ok (.iaload, 1) := by decide +kernel
theorem eX7_clause_37 : decode mX7_clause.2.1 37 = .ok (.bipush 119, 2) := by decide +kernel
theorem eX7_clause_39 : decode mX7_clause.2.1 39 = .ok (.if_icmp .ne 7, 3) := by decide +kernel
theorem eX7_clause_42 : decode mX7_clause.2.1 42 = .ok (.iconst 1, 1) := by decide +kernel
theorem eX7_clause_43 : decode mX7_clause.2.1 43 = .ok (.goto 4, 3) := by decide +kernel
theorem eX7_clause_46 : decode mX7_clause.2.1 46 = .ok (.iconst 0, 1) := by decide +kernel
theorem eX7_clause_47 : decode mX7_clause.2.1 47 = .ok (.istore_n 1, 1) := by decide +kernel
theorem eX7_clause_48 : decode mX7_clause.2.1 48 = .ok (.iconst 0, 1) := by decide +kernel
theorem eX7_clause_49 : decode mX7_clause.2.1 49 = .ok (.istore_n 2, 1) := by decide +kernel
theorem eX7_clause_50 : decode mX7_clause.2.1 50 = .ok (.iload_n 2, 1) := by decide +kernel
theorem eX7_clause_51 : decode mX7_clause.2.1 51 = .ok (.iconst 5, 1) := by decide +kernel
theorem eX7_clause_52 : decode mX7_clause.2.1 52 = .ok (.if_icmp .ge 36, 3) := by decide +kernel
theorem eX7_clause_55 : decode mX7_clause.2.1 55 = .ok (.aload_n 0, 1) := by decide +kernel
theorem eX7_clause_56 : decode mX7_clause.2.1 56 = .ok (.getfield 44, 3) := by decide +kernel
theorem eX7_clause_59 : decode mX7_clause.2.1 59 = .ok (.iconst 5, 1) := by decide +kernel
theorem eX7_clause_60 : decode mX7_clause.2.1 60 = .ok (.iload_n 1, 1) := by decide +kernel
theorem eX7_clause_61 : decode mX7_clause.2.1 61 = .ok (.imul, 1) := by decide +kernel
theorem eX7_clause_62 : decode mX7_clause.2.1 62 = .ok (.iload_n 2, 1) := by decide +kernel
theorem eX7_clause_63 : decode mX7_clause.2.1 63 = .ok (.iadd, 1) := by decide +kernel
theorem eX7_clause_64 : decode mX7_clause.2.1 64 = .ok (.caload, 1) := by decide +kernel
theorem eX7_clause_65 : decode mX7_clause.2.1 65 = .ok (.ifCond .eq 23, 3) := by decide +kernel
theorem eX7_clause_68 : decode mX7_clause.2.1 68 = .ok (.aload_n 0, 1) := by decide +kernel
theorem eX7_clause_69 : decode mX7_clause.2.1 69 = .ok (.aload_n 0, 1) := by decide +kernel
theorem eX7_clause_70 : decode mX7_clause.2.1 70 = .ok (.getfield 44, 3) := by decide +kernel
theorem eX7_clause_73 : decode mX7_clause.2.1 73 = .ok (.iconst 5, 1) := by decide +kernel
theorem eX7_clause_74 : decode mX7_clause.2.1 74 = .ok (.iload_n 1, 1) := by decide +kernel
theorem eX7_clause_75 : decode mX7_clause.2.1 75 = .ok (.imul, 1) := by decide +kernel
theorem eX7_clause_76 : decode mX7_clause.2.1 76 = .ok (.iload_n 2, 1) := by decide +kernel
theorem eX7_clause_77 : decode mX7_clause.2.1 77 = .ok (.iadd, 1) := by decide +kernel
theorem eX7_clause_78 : decode mX7_clause.2.1 78 = .ok (.caload, 1) := by decide +kernel
theorem eX7_clause_79 : decode mX7_clause.2.1 79 = .ok (.invokevirtual 143, 3) := by decide +kernel
theorem eX7_clause_82 : decode mX7_clause.2.1 82 = .ok (.iinc 2 1, 3) := by decide +kernel
theorem eX7_clause_85 : decode mX7_clause.2.1 85 = .ok (.goto (-35), 3) := by decide +kernel
theorem eX7_clause_88 : decode mX7_clause.2.1 88 = .ok (.aload_n 0, 1) := by decide +kernel
theorem eX7_clause_89 : decode mX7_clause.2.1 89 = .ok (.bipush 32, 2) := by decide +kernel
theorem eX7_clause_91 : decode mX7_clause.2.1 91 = .ok (.invokevirtual 143, 3) := by decide +kernel
theorem eX7_clause_94 : decode mX7_clause.2.1 94 = .ok (.aload_n 0, 1) := by decide +kernel
theorem eX7_clause_95 : decode mX7_clause.2.1 95 = .ok (.invokevirtual 146, 3) := by decide +kernel
theorem eX7_clause_98 : decode mX7_clause.2.1 98 = .ok (.istore_n 2, 1) := by decide +kernel
theorem eX7_clause_99 : decode mX7_clause.2.1 99 = .ok (.iload_n 1, 1) := by decide +kernel
theorem eX7_clause_100 : decode mX7_clause.2.1 100 = .ok (.iconst 2, 1) := by decide +kernel
theorem eX7_clause_101 : decode mX7_clause.2.1 101 = .ok (.if_icmp .ne 9, 3) := by decide +kernel
theorem eX7_clause_104 : decode mX7_clause.2.1 104 = .ok (.aload_n 0, 1) := by decide +kernel
theorem eX7_clause_105 : decode mX7_clause.2.1 105 = .ok (.iload_n 2, 1) := by decide +kernel
theorem eX7_clause_106 : decode mX7_clause.2.1 106 = .ok (.putfield 165, 3) := by decide +kernel
theorem eX7_clause_109 : decode mX7_clause.2.1 109 = .ok (.return_, 1) := by decide +kernel
theorem eX7_clause_110 : decode mX7_clause.2.1 110 = .ok (.aload_n 0, 1) := by decide +kernel
theorem eX7_clause_111 : decode mX7_clause.2.1 111 = .ok (.bipush 32, 2) := by decide +kernel
theorem eX7_clause_113 : decode mX7_clause.2.1 113 = .ok (.invokevirtual 143, 3) := by decide +kernel
theorem eX7_clause_116 : decode mX7_clause.2.1 116 = .ok (.aload_n 0, 1) := by decide +kernel
theorem eX7_clause_117 : decode mX7_clause.2.1 117 = .ok (.iconst 0, 1) := by decide +kernel
theorem eX7_clause_118 : decode mX7_clause.2.1 118 = .ok (.putfield 150, 3) := by decide +kernel
theorem eX7_clause_121 : decode mX7_clause.2.1 121 = .ok (.aload_n 0, 1) := by decide +kernel
theorem eX7_clause_122 : decode mX7_clause.2.1 122 = .ok (.invokevirtual 156, 3) := by decide +kernel
theorem eX7_clause_125 : decode mX7_clause.2.1 125 = .ok (.istore_n 3, 1) := by decide +kernel
theorem eX7_clause_126 : decode mX7_clause.2.1 126 = .ok (.aload_n 0, 1) := by decide +kernel
theorem eX7_clause_127 : decode mX7_clause.2.1 127 = .ok (.dup, 1) := by decide +kernel
theorem eX7_clause_128 : decode mX7_clause.2.1 128 = .ok (.getfield 168, 3) := by decide +kernel
theorem eX7_clause_131 : decode mX7_clause.2.1 131 = .ok (.iload_n 3, 1) := by decide +kernel
theorem eX7_clause_132 : decode mX7_clause.2.1 132 = .ok (.ifCond .ne 7, 3) := by decide +kernel
theorem eX7_clause_135 : decode mX7_clause.2.1 135 = .ok (.iconst 0, 1) := by decide +kernel
theorem eX7_clause_136 : decode mX7_clause.2.1 136 = .ok (.goto 13, 3) := by decide +kernel
theorem eX7_clause_139 : decode mX7_clause.2.1 139 = .ok (.iload_n 1, 1) := by decide +kernel
theorem eX7_clause_140 : decode mX7_clause.2.1 140 = .ok (.ifCond .ne 7, 3) := by decide +kernel
theorem eX7_clause_143 : decode mX7_clause.2.1 143 = .ok (.iload_n 2, 1) := by decide +kernel
theorem eX7_clause_144 : decode mX7_clause.2.1 144 = .ok (.goto 5, 3) := by decide +kernel
theorem eX7_clause_147 : decode mX7_clause.2.1 147 = .ok (.iload_n 2, 1) := by decide +kernel
theorem eX7_clause_148 : decode mX7_clause.2.1 148 = .ok (.ineg, 1) := by decide +kernel
theorem eX7_clause_149 : decode mX7_clause.2.1 149 = .ok (.iadd, 1) := by decide +kernel
theorem eX7_clause_150 : decode mX7_clause.2.1 150 = .ok (.putfield 168, 3) := by decide +kernel
theorem eX7_clause_153 : decode mX7_clause.2.1 153 = .ok (.return_, 1) := by decide +kernel
theorem cl_tail (hn : pOk U n) {k w : Nat} (hw : w ≤ 2) {c : CS} (hp : c.1.1 ≤ n) (hM : MAt h u (mp (wk (sr U c.2.1 c.2.2) k) c.1)) (o2 o3 : Option Value) (hd : 18 ≤ d) (hQ : ∀ h' k', MAt h' u (mp (wk (sr U (pTl (U.1 7) n (U.1 9) (U.1 8) w c).2.1 (pTl (U.1 7) n (U.1 9) (U.1 8) w c).2.2) k') (pTl (U.1 7) n (U.1 9) (U.1 8) w c).1) → Same u 19 h h' → Q none h') : AW l G mX7_clause d 0 0 Q 0 0 h [some (.ref u), some (.int (nI w)), o2, o3] [] 88 := by
  have n100 := hn.2
  refine aw_aload_n (pc' := 89) eX7_clause_88 rfl rfl trivial ?_
  refine aw_bipush (pc' := 91) (v := 32) eX7_clause_89 rfl (by decide) ?_
  refine aw_callv (pc' := 94) (nn := 1) (c_X7_takes (d := d - 1) hM (show pOk (wk (sr U c.2.1 c.2.2) k) n from hn) hp _ (by omega)) eX7_clause_91 rfl ⟨q925, q928, q62⟩ q927 q28 ⟨rfl, by decide +kernel, by decide +kernel, by decide +kernel⟩ rfl (by rw [hM.2.1]; exact ⟨rfl, rfl⟩) rfl ⟨by omega, by decide⟩ ⟨by omega, by omega⟩ rfl (Nat.le_of_ble_eq_true rfl) (fun v3 h4 hq5 => ?_)
  obtain ⟨rfl, hM1, hs2⟩ := hq5
  dsimp only [Option.toList, List.cons_append, List.nil_append]
  refine aw_aload_n (pc' := 95) eX7_clause_94 rfl rfl trivial ?_
  refine aw_callv (pc' := 98) (nn := 0) (c_X7_number (d := d - 1) hM1 (show pOk (wk (sr U c.2.1 c.2.2) k) n from hn) (pTk_le hp) (by omega)) eX7_clause_95 rfl ⟨q929, q932, q62⟩ q931 q29 ⟨rfl, by decide +kernel, by decide +kernel, by decide +kernel⟩ rfl (by rw [hM1.2.1]; exact ⟨rfl, rfl⟩) rfl ⟨by omega, by decide⟩ ⟨by omega, by omega⟩ rfl (Nat.le_of_ble_eq_true rfl) (fun v8 h9 hq10 => ?_)
  obtain ⟨rfl, hM6, hs7⟩ := hq10
  have hT11 := hs2.tr hs7
  dsimp only [Option.toList, List.cons_append, List.nil_append]
  refine aw_istore_n (pc' := 99) eX7_clause_98 rfl (by decide) ?_
  dsimp only [zst, zst2, zcut]
  refine aw_iload_n (pc' := 100) eX7_clause_99 rfl rfl ?_
  refine aw_iconst (pc' := 101) (v := 2) eX7_clause_100 rfl (by decide) ?_
  refine aw_icmp_ne (pc' := 104) (tgt := 110) eX7_clause_101 rfl (by decide) (fun c_101 => ?_) (fun c_101 => ?_)
  · have w2 : ¬ w = 2 := fun z => by
      rw [z] at c_101
      exact absurd rfl (by first | exact c_101 | exact fun y => c_101 y)
    refine aw_aload_n (pc' := 111) eX7_clause_110 rfl rfl trivial ?_
    refine aw_bipush (pc' := 113) (v := 32) eX7_clause_111 rfl (by decide) ?_
    refine aw_callv (pc' := 116) (nn := 1) (c_X7_takes (d := d - 1) hM6 (show pOk (wk (sr U c.2.1 c.2.2) k) n from hn) (pNum_le (pTk_le hp)) _ (by omega)) eX7_clause_113 rfl ⟨q925, q928, q62⟩ q927 q28 ⟨rfl, by decide +kernel, by decide +kernel, by decide +kernel⟩ rfl (by rw [hM6.2.1]; exact ⟨rfl, rfl⟩) rfl ⟨by omega, by decide⟩ ⟨by omega, by omega⟩ rfl (Nat.le_of_ble_eq_true rfl) (fun v14 h15 hq16 => ?_)
    obtain ⟨rfl, hM12, hs13⟩ := hq16
    have hT17 := hT11.tr hs13
    dsimp only [Option.toList, List.cons_append, List.nil_append]
    refine aw_aload_n (pc' := 117) eX7_clause_116 rfl rfl trivial ?_
    refine aw_iconst (pc' := 118) (v := 0) eX7_clause_117 rfl (by decide) ?_
    refine aw_Mput (pc' := 121) 13 hM12 eX7_clause_118 rfl (by decide) (fun z => absurd z (by decide)) q802 (fun h20 hM18 hs19 => ?_)
    have hT21 := hT17.tr hs19
    have hMb := hM18
    rw [wk_in _ _ 0 _ (x := 0) rfl] at hMb
    refine aw_aload_n (pc' := 122) eX7_clause_121 rfl rfl trivial ?_
    refine aw_callv (pc' := 125) (nn := 0) (((parse_all (U := sr U c.2.1 c.2.2) (show pOk (sr U c.2.1 c.2.2) n from hn) 500).2.2) (d - 1) 0 (pTk (U.1 7) n (pNum (U.1 7) n (pTk (U.1 7) n c.1 32)).2 32) _ hMb (by omega) (pTk_le (pNum_le (pTk_le hp))) (by have := hn.2; omega) (by omega)) eX7_clause_122 rfl ⟨q937, q940, q62⟩ q939 q31 ⟨rfl, by decide +kernel, by decide +kernel, by decide +kernel⟩ rfl (by rw [hMb.2.1]; exact ⟨rfl, rfl⟩) rfl ⟨by omega, by decide⟩ ⟨by omega, by omega⟩ rfl (Nat.le_of_ble_eq_true rfl) (fun v24 h25 hq26 => ?_)
    obtain ⟨rfl, hM22, hs23⟩ := hq26
    have hT27 := hT21.tr hs23
    dsimp only [Option.toList, List.cons_append, List.nil_append]
    refine aw_istore_n (pc' := 126) eX7_clause_125 rfl (by decide) ?_
    dsimp only [zst, zst2, zcut]
    refine aw_aload_n (pc' := 127) eX7_clause_126 rfl rfl trivial ?_
    refine aw_dup (pc' := 128) eX7_clause_127 rfl rfl ?_
    refine aw_Mint (pc' := 131) (kf := 14) hM22 eX7_clause_128 rfl (by decide) q803 ?_
    refine aw_iload_n (pc' := 132) eX7_clause_131 rfl rfl ?_
    refine aw_if_ne (pc' := 135) (tgt := 139) eX7_clause_132 rfl (by decide) (fun c_132 => ?_) (fun c_132 => ?_)
    · refine aw_iload_n (pc' := 140) eX7_clause_139 rfl rfl ?_
      refine aw_if_ne (pc' := 143) (tgt := 147) eX7_clause_140 rfl (by decide) (fun c_140 => ?_) (fun c_140 => ?_)
      · refine aw_iload_n (pc' := 148) eX7_clause_147 rfl rfl ?_
        refine aw_ineg (pc' := 149) eX7_clause_148 rfl ?_
        refine aw_iadd (pc' := 150) eX7_clause_149 rfl ?_
        refine aw_Mput (pc' := 153) 14 hM22 eX7_clause_150 rfl (by decide) (fun z => absurd z (by decide)) q803 (fun h30 hM28 hs29 => ?_)
        have hT31 := hT27.tr hs29
        refine aw_ret (v := none) eX7_clause_153 rfl (by omega) (by omega) rfl ?_
        have g132 : (pX (U.1 7) n (U.1 9) (U.1 8) 500 3 0 false (pTk (U.1 7) n (pNum (U.1 7) n (pTk (U.1 7) n c.1 32)).2 32)).1 = true := by (have z := c_132; (try simp only [zb_eq0, Bool.not_eq_false, Bool.not_eq_true, decide_eq_true_eq, decide_eq_false_iff_not, Decidable.not_not] at z); exact z)
        have w0 : ¬ w = 0 := fun z => absurd (show nI w = 0 by rw [z]; rfl) (by first | exact c_140 | exact fun y => y c_140)
        have hM9 := hM28
        have e : pTl (U.1 7) n (U.1 9) (U.1 8) w c = ((pX (U.1 7) n (U.1 9) (U.1 8) 500 3 0 false (pTk (U.1 7) n (pNum (U.1 7) n (pTk (U.1 7) n c.1 32)).2 32)).2, c.2.1 + (-(pNum (U.1 7) n (pTk (U.1 7) n c.1 32)).1), c.2.2) := by rw [pTl, if_neg w2]; simp [g132, w0]
        rw [e] at hQ
        rw [sr_sum] at hM9
        exact hQ _ 0 hM9 hT31
      · refine aw_iload_n (pc' := 144) eX7_clause_143 rfl rfl ?_
        refine aw_goto eX7_clause_144 (by decide) (tgt := 149) ?_
        refine aw_iadd (pc' := 150) eX7_clause_149 rfl ?_
        refine aw_Mput (pc' := 153) 14 hM22 eX7_clause_150 rfl (by decide) (fun z => absurd z (by decide)) q803 (fun h34 hM32 hs33 => ?_)
        have hT35 := hT27.tr hs33
        refine aw_ret (v := none) eX7_clause_153 rfl (by omega) (by omega) rfl ?_
        have g132 : (pX (U.1 7) n (U.1 9) (U.1 8) 500 3 0 false (pTk (U.1 7) n (pNum (U.1 7) n (pTk (U.1 7) n c.1 32)).2 32)).1 = true := by (have z := c_132; (try simp only [zb_eq0, Bool.not_eq_false, Bool.not_eq_true, decide_eq_true_eq, decide_eq_false_iff_not, Decidable.not_not] at z); exact z)
        have w0 : w = 0 := (nI_eq (a := w) (b := 0) (by omega) (by omega)).mp (by first | exact c_140 | exact Decidable.not_not.mp c_140)
        have hM9 := hM32
        have e : pTl (U.1 7) n (U.1 9) (U.1 8) w c = ((pX (U.1 7) n (U.1 9) (U.1 8) 500 3 0 false (pTk (U.1 7) n (pNum (U.1 7) n (pTk (U.1 7) n c.1 32)).2 32)).2, c.2.1 + (pNum (U.1 7) n (pTk (U.1 7) n c.1 32)).1, c.2.2) := by rw [pTl, if_neg w2]; simp [g132, w0]
        rw [e] at hQ
        rw [sr_sum] at hM9
        exact hQ _ 0 hM9 hT35
    · refine aw_iconst (pc' := 136) (v := 0) eX7_clause_135 rfl (by decide) ?_
      refine aw_goto eX7_clause_136 (by decide) (tgt := 149) ?_
      refine aw_iadd (pc' := 150) eX7_clause_149 rfl ?_
      refine aw_Mput (pc' := 153) 14 hM22 eX7_clause_150 rfl (by decide) (fun z => absurd z (by decide)) q803 (fun h38 hM36 hs37 => ?_)
      have hT39 := hT27.tr hs37
      refine aw_ret (v := none) eX7_clause_153 rfl (by omega) (by omega) rfl ?_
      have g132 : (pX (U.1 7) n (U.1 9) (U.1 8) 500 3 0 false (pTk (U.1 7) n (pNum (U.1 7) n (pTk (U.1 7) n c.1 32)).2 32)).1 = false := by (have z := c_132; (try simp only [zb_eq0, Bool.not_eq_false, Bool.not_eq_true, decide_eq_true_eq, decide_eq_false_iff_not, Decidable.not_not] at z); exact z)
      have hM9 := hM36
      have e : pTl (U.1 7) n (U.1 9) (U.1 8) w c = ((pX (U.1 7) n (U.1 9) (U.1 8) 500 3 0 false (pTk (U.1 7) n (pNum (U.1 7) n (pTk (U.1 7) n c.1 32)).2 32)).2, c.2.1 + 0, c.2.2) := by rw [pTl, if_neg w2]; simp [g132]
      rw [e] at hQ
      rw [sr_sum] at hM9
      exact hQ _ 0 hM9 hT39
  · have w2 : w = 2 := by
      have z := c_101
      exact (nI_eq (a := w) (b := 2) (by omega) (by omega)).mp (by first | exact z | exact Decidable.not_not.mp z)
    refine aw_aload_n (pc' := 105) eX7_clause_104 rfl rfl trivial ?_
    refine aw_iload_n (pc' := 106) eX7_clause_105 rfl rfl ?_
    refine aw_Mput (pc' := 109) 15 hM6 eX7_clause_106 rfl (by decide) (fun z => absurd z (by decide)) q804 (fun h42 hM40 hs41 => ?_)
    have hT43 := hT11.tr hs41
    refine aw_ret (v := none) eX7_clause_109 rfl (by omega) (by omega) rfl ?_
    have hM9 := hM40
    rw [sr_room] at hM9
    have e : pTl (U.1 7) n (U.1 9) (U.1 8) w c = ((pNum (U.1 7) n (pTk (U.1 7) n c.1 32)).2, c.2.1, (pNum (U.1 7) n (pTk (U.1 7) n c.1 32)).1) := if_pos w2
    rw [e] at hQ
    exact hQ _ k hM9 hT43
theorem ix15 {w i : Nat} (h : 5 * w + i < 15) : (5 * nI w + nI i).toNatClampNeg = 5 * w + i ∧ vp_in (5 * nI w + nI i) 15 := by
  have e : 5 * nI w + nI i = nI (5 * w + i) := nI_muladd 5 w i
  rw [e]
  exact ⟨nI_clamp (by omega), vp_in_nI h (by omega)⟩
theorem cl_words (hn : pOk U n) {k w : Nat} (hw : w ≤ 2) {c : CS} (o3 : Option Value) (hd : 2 ≤ d) : ∀ (j i : Nat) (y : Int32) (p : PP) (h : Hp), i + j = 5 → y = nI i → p.1 ≤ n → MAt h u (mp (wk (sr U c.2.1 c.2.2) k) p) → (∀ h', MAt h' u (mp (wk (sr U c.2.1 c.2.2) k) (pWl (U.1 7) n (U.1 10) w j i p)) → Same u 19 h h' → ∀ y', AW l G mX7_clause d 0 0 Q 0 0 h' [some (.ref u), some (.int (nI w)), some (.int y'), o3] [] 88) → AW l G mX7_clause d 0 0 Q 0 0 h [some (.ref u), some (.int (nI w)), some (.int y), o3] [] 50 := by
  intro j
  induction j with
  | zero =>
    intro i y p h hij hy hp hM hQ
    subst hy
    have i5 : i = 5 := by omega
    subst i5
    refine aw_iload_n (pc' := 51) eX7_clause_50 rfl rfl ?_
    refine aw_iconst (pc' := 52) (v := 5) eX7_clause_51 rfl (by decide) ?_
    refine aw_icmp_ge (pc' := 55) (tgt := 88) eX7_clause_52 rfl (by decide) (fun c_52 => ?_) (fun c_52 => ?_)
    · exact hQ _ hM Same.rf _
    · exact absurd (by decide) c_52
  | succ j ih =>
    intro i y p h hij hy hp hM hQ
    subst hy
    refine aw_iload_n (pc' := 51) eX7_clause_50 rfl rfl ?_
    refine aw_iconst (pc' := 52) (v := 5) eX7_clause_51 rfl (by decide) ?_
    refine aw_icmp_ge (pc' := 55) (tgt := 88) eX7_clause_52 rfl (by decide) (fun c_52 => ?_) (fun c_52 => ?_)
    · exact absurd (ge_nI (a := i) (b := 5) (by omega) (by omega) c_52) (by omega)
    · have c9 := nge_nI (a := i) (b := 5) (by omega) (by omega) c_52
      obtain ⟨hx, hv⟩ := ix15 (w := w) (i := i) (by omega)
      refine aw_aload_n (pc' := 56) eX7_clause_55 rfl rfl trivial ?_
      refine aw_Mref (pc' := 59) (kf := 18) 10 hM eX7_clause_56 rfl (by decide) rfl q807 ?_
      refine aw_iconst (pc' := 60) (v := 5) eX7_clause_59 rfl (by decide) ?_
      refine aw_iload_n (pc' := 61) eX7_clause_60 rfl rfl ?_
      refine aw_imul (pc' := 62) eX7_clause_61 rfl ?_
      refine aw_iload_n (pc' := 63) eX7_clause_62 rfl rfl ?_
      refine aw_iadd (pc' := 64) eX7_clause_63 rfl ?_
      refine aw_Mcld (pc' := 65) 10 hM eX7_clause_64 rfl (by decide) hv ?_
      refine aw_if_eq (pc' := 68) (tgt := 88) eX7_clause_65 rfl (by decide) (fun c_65 => ?_) (fun c_65 => ?_)
      · rw [show (mp (wk (sr U c.2.1 c.2.2) k) p).1 = U.1 from rfl, hx] at c_65
        have g65 : U.1 10 (5 * w + i) = 0 := c_65
        rw [pWl, if_pos g65] at hQ
        exact hQ _ hM Same.rf _
      · refine aw_aload_n (pc' := 69) eX7_clause_68 rfl rfl trivial ?_
        refine aw_aload_n (pc' := 70) eX7_clause_69 rfl rfl trivial ?_
        refine aw_Mref (pc' := 73) (kf := 18) 10 hM eX7_clause_70 rfl (by decide) rfl q807 ?_
        refine aw_iconst (pc' := 74) (v := 5) eX7_clause_73 rfl (by decide) ?_
        refine aw_iload_n (pc' := 75) eX7_clause_74 rfl rfl ?_
        refine aw_imul (pc' := 76) eX7_clause_75 rfl ?_
        refine aw_iload_n (pc' := 77) eX7_clause_76 rfl rfl ?_
        refine aw_iadd (pc' := 78) eX7_clause_77 rfl ?_
        refine aw_Mcld (pc' := 79) 10 hM eX7_clause_78 rfl (by decide) hv ?_
        refine aw_callv (pc' := 82) (nn := 1) (c_X7_takes (d := d - 1) hM (show pOk (wk (sr U c.2.1 c.2.2) k) n from hn) hp _ (by omega)) eX7_clause_79 rfl ⟨q925, q928, q62⟩ q927 q28 ⟨rfl, by decide +kernel, by decide +kernel, by decide +kernel⟩ rfl (by rw [hM.2.1]; exact ⟨rfl, rfl⟩) rfl ⟨by omega, by decide⟩ ⟨by omega, by omega⟩ rfl (Nat.le_of_ble_eq_true rfl) (fun v3 h4 hq5 => ?_)
        obtain ⟨rfl, hM1, hs2⟩ := hq5
        dsimp only [Option.toList, List.cons_append, List.nil_append]
        refine aw_iinc (pc' := 85) eX7_clause_82 rfl rfl rfl (by decide) ?_
        dsimp only [zst, zst2, zcut]
        refine aw_goto eX7_clause_85 (by decide) (tgt := 50) ?_
        rw [show (mp (wk (sr U c.2.1 c.2.2) k) p).1 = U.1 from rfl, hx] at c_65
        have g65 : ¬ U.1 10 (5 * w + i) = 0 := c_65
        refine ih (i + 1) _ (pTk (U.1 7) n p (U.1 10 (5 * w + i))) _ (by omega) (nI_inc i) (pTk_le hp) ?_ (fun h' m s => ?_)
        · have z := hM1
          rw [hx] at z
          exact z
        · rw [pWl, if_neg g65] at hQ
          exact hQ h' m ((hs2).tr s)
theorem c_X7_clause (hn : pOk U n) {k : Nat} {c : CS} (hp : c.1.1 ≤ n) (hM : MAt h u (mp (wk (sr U c.2.1 c.2.2) k) c.1)) (hd : 18 ≤ d) : Ct l G mX7_clause yX7_clause d 0 0 [.ref u] h (fun r h' => r = none ∧ ∃ k', MAt h' u (mp (wk (sr U (pCl (U.1 7) n (U.1 9) (U.1 8) (U.1 10) c).2.1 (pCl (U.1 7) n (U.1 9) (U.1 8) (U.1 10) c).2.2) k') (pCl (U.1 7) n (U.1 9) (U.1 8) (U.1 10) c).1) ∧ Same u 19 h h') := by
  have n100 := hn.2
  refine ct_of (lv := [some (.ref u), none, none, none]) (by decide +kernel) rfl (fun z => by cases z) (fun _ => rfl) (fun _ => Nat.le_of_ble_eq_true rfl) ?_
  have hQ : ∀ h' k', MAt h' u (mp (wk (sr U (pCl (U.1 7) n (U.1 9) (U.1 8) (U.1 10) c).2.1 (pCl (U.1 7) n (U.1 9) (U.1 8) (U.1 10) c).2.2) k') (pCl (U.1 7) n (U.1 9) (U.1 8) (U.1 10) c).1) → Same u 19 h h' → (fun (r : Option Value) (h' : Hp) => r = none ∧ ∃ k', MAt h' u (mp (wk (sr U (pCl (U.1 7) n (U.1 9) (U.1 8) (U.1 10) c).2.1 (pCl (U.1 7) n (U.1 9) (U.1 8) (U.1 10) c).2.2) k') (pCl (U.1 7) n (U.1 9) (U.1 8) (U.1 10) c).1) ∧ Same u 19 h h') none h' := fun h' k' a b => ⟨rfl, k', a, b⟩
  generalize (fun (r : Option Value) (h' : Hp) => r = none ∧ ∃ k', MAt h' u (mp (wk (sr U (pCl (U.1 7) n (U.1 9) (U.1 8) (U.1 10) c).2.1 (pCl (U.1 7) n (U.1 9) (U.1 8) (U.1 10) c).2.2) k') (pCl (U.1 7) n (U.1 9) (U.1 8) (U.1 10) c).1) ∧ Same u 19 h h') = Q at hQ ⊢
  refine aw_aload_n (pc' := 1) eX7_clause_0 rfl rfl trivial ?_
  refine aw_bipush (pc' := 3) (v := 114) eX7_clause_1 rfl (by decide) ?_
  refine aw_callv (pc' := 6) (nn := 1) (c_X7_isAt (d := d - 1) hM (show pOk (wk (sr U c.2.1 c.2.2) k) n from hn) hp _ (by omega)) eX7_clause_3 rfl ⟨q921, q924, q62⟩ q923 q27 ⟨rfl, by decide +kernel, by decide +kernel, by decide +kernel⟩ rfl (by rw [hM.2.1]; exact ⟨rfl, rfl⟩) rfl ⟨by omega, by decide⟩ ⟨by omega, by omega⟩ rfl (Nat.le_of_ble_eq_true rfl) (fun v1 h2 hq3 => ?_)
  obtain ⟨rfl, rfl⟩ := hq3
  dsimp only [Option.toList, List.cons_append, List.nil_append]
  refine aw_if_eq (pc' := 9) (tgt := 13) eX7_clause_6 rfl (by decide) (fun c_6 => ?_) (fun c_6 => ?_)
  · refine aw_aload_n (pc' := 14) eX7_clause_13 rfl rfl trivial ?_
    refine aw_Mint (pc' := 17) (kf := 11) hM eX7_clause_14 rfl (by decide) q800 ?_
    refine aw_iconst (pc' := 18) (v := 1) eX7_clause_17 rfl (by decide) ?_
    refine aw_iadd (pc' := 19) eX7_clause_18 rfl ?_
    refine aw_aload_n (pc' := 20) eX7_clause_19 rfl rfl trivial ?_
    refine aw_Mint (pc' := 23) (kf := 10) hM eX7_clause_20 rfl (by decide) q799 ?_
    refine aw_icmp_ge (pc' := 26) (tgt := 46) eX7_clause_23 rfl (by decide) (fun c_23 => ?_) (fun c_23 => ?_)
    · refine aw_iconst (pc' := 47) (v := 0) eX7_clause_46 rfl (by decide) ?_
      refine aw_istore_n (pc' := 48) eX7_clause_47 rfl (by decide) ?_
      dsimp only [zst, zst2, zcut]
      have g6 : pAt (U.1 7) n c.1 114 = false := by (have z := c_6; (try simp only [zb_eq0, Bool.not_eq_false, Bool.not_eq_true, decide_eq_true_eq, decide_eq_false_iff_not, Decidable.not_not] at z); exact z)
      have e23 : ¬ c.1.1 + 1 < n := by
        have z := c_23
        rw [show (mp (wk (sr U c.2.1 c.2.2) k) c.1).2.1 11 + 1 = nI (c.1.1 + 1) from nI_1 _, show (mp (wk (sr U c.2.1 c.2.2) k) c.1).2.1 10 = nI n from hn.1] at z
        have := ge_nI (by omega) (by omega) z
        omega
      have ew : pWh (U.1 7) n c.1 = 0 := by rw [pWh, if_neg (by rw [g6]; decide), if_neg (fun z => e23 z.1)]
      refine aw_iconst (pc' := 49) (v := 0) eX7_clause_48 rfl (by decide) ?_
      refine aw_istore_n (pc' := 50) eX7_clause_49 rfl (by decide) ?_
      dsimp only [zst, zst2, zcut]
      rw [pCl, ew] at hQ
      refine cl_words hn (w := 0) (k := k) (c := c) (by omega) _ (by omega) 5 0 0 c.1 _ (by omega) rfl hp hM (fun h' m s y' => ?_)
      exact cl_tail hn (c := (pWl (U.1 7) n (U.1 10) 0 5 0 c.1, c.2)) (w := 0) (by omega) (pWl_le 5 0 _ hp) m _ _ hd (fun h2 k2 m2 s2 => hQ h2 k2 m2 (s.tr s2))
    · have e23 : c.1.1 + 1 < n := by
        have z := c_23
        rw [show (mp (wk (sr U c.2.1 c.2.2) k) c.1).2.1 11 + 1 = nI (c.1.1 + 1) from nI_1 _, show (mp (wk (sr U c.2.1 c.2.2) k) c.1).2.1 10 = nI n from hn.1] at z
        exact nge_nI (by omega) (by omega) z
      have hx11 : ((mp (wk (sr U c.2.1 c.2.2) k) c.1).2.1 11 + 1).toNatClampNeg = c.1.1 + 1 := by rw [show (mp (wk (sr U c.2.1 c.2.2) k) c.1).2.1 11 + 1 = nI (c.1.1 + 1) from nI_1 _]; exact nI_clamp (by omega)
      refine aw_aload_n (pc' := 27) eX7_clause_26 rfl rfl trivial ?_
      refine aw_Mref (pc' := 30) (kf := 9) 7 hM eX7_clause_27 rfl (by decide) rfl q798 ?_
      refine aw_aload_n (pc' := 31) eX7_clause_30 rfl rfl trivial ?_
      refine aw_Mint (pc' := 34) (kf := 11) hM eX7_clause_31 rfl (by decide) q800 ?_
      refine aw_iconst (pc' := 35) (v := 1) eX7_clause_34 rfl (by decide) ?_
      refine aw_iadd (pc' := 36) eX7_clause_35 rfl ?_
      refine aw_MaldC (pc' := 37) 7 _ hM eX7_clause_36 rfl (by decide) (show vp_in _ 100 by rw [show (mp (wk (sr U c.2.1 c.2.2) k) c.1).2.1 11 + 1 = nI (c.1.1 + 1) from nI_1 _]; exact vp_in_nI (by omega) (by omega)) rfl ?_
      refine aw_bipush (pc' := 39) (v := 119) eX7_clause_37 rfl (by decide) ?_
      refine aw_icmp_ne (pc' := 42) (tgt := 46) eX7_clause_39 rfl (by decide) (fun c_39 => ?_) (fun c_39 => ?_)
      · refine aw_iconst (pc' := 47) (v := 0) eX7_clause_46 rfl (by decide) ?_
        refine aw_istore_n (pc' := 48) eX7_clause_47 rfl (by decide) ?_
        dsimp only [zst, zst2, zcut]
        have g6 : pAt (U.1 7) n c.1 114 = false := by (have z := c_6; (try simp only [zb_eq0, Bool.not_eq_false, Bool.not_eq_true, decide_eq_true_eq, decide_eq_false_iff_not, Decidable.not_not] at z); exact z)
        rw [hx11] at c_39
        have g39 : ¬ U.1 7 (c.1.1 + 1) = 119 := by first | exact c_39 | exact Decidable.not_not.mp c_39
        have ew : pWh (U.1 7) n c.1 = 0 := by rw [pWh, if_neg (by rw [g6]; decide), if_neg (fun z => g39 z.2)]
        refine aw_iconst (pc' := 49) (v := 0) eX7_clause_48 rfl (by decide) ?_
        refine aw_istore_n (pc' := 50) eX7_clause_49 rfl (by decide) ?_
        dsimp only [zst, zst2, zcut]
        rw [pCl, ew] at hQ
        refine cl_words hn (w := 0) (k := k) (c := c) (by omega) _ (by omega) 5 0 0 c.1 _ (by omega) rfl hp hM (fun h' m s y' => ?_)
        exact cl_tail hn (c := (pWl (U.1 7) n (U.1 10) 0 5 0 c.1, c.2)) (w := 0) (by omega) (pWl_le 5 0 _ hp) m _ _ hd (fun h2 k2 m2 s2 => hQ h2 k2 m2 (s.tr s2))
      · refine aw_iconst (pc' := 43) (v := 1) eX7_clause_42 rfl (by decide) ?_
        refine aw_goto eX7_clause_43 (by decide) (tgt := 47) ?_
        refine aw_istore_n (pc' := 48) eX7_clause_47 rfl (by decide) ?_
        dsimp only [zst, zst2, zcut]
        have g6 : pAt (U.1 7) n c.1 114 = false := by (have z := c_6; (try simp only [zb_eq0, Bool.not_eq_false, Bool.not_eq_true, decide_eq_true_eq, decide_eq_false_iff_not, Decidable.not_not] at z); exact z)
        rw [hx11] at c_39
        have g39 : U.1 7 (c.1.1 + 1) = 119 := by first | exact c_39 | exact Decidable.not_not.mp c_39
        have ew : pWh (U.1 7) n c.1 = 1 := by rw [pWh, if_neg (by rw [g6]; decide), if_pos ⟨e23, g39⟩]
        refine aw_iconst (pc' := 49) (v := 0) eX7_clause_48 rfl (by decide) ?_
        refine aw_istore_n (pc' := 50) eX7_clause_49 rfl (by decide) ?_
        dsimp only [zst, zst2, zcut]
        rw [pCl, ew] at hQ
        refine cl_words hn (w := 1) (k := k) (c := c) (by omega) _ (by omega) 5 0 0 c.1 _ (by omega) rfl hp hM (fun h' m s y' => ?_)
        exact cl_tail hn (c := (pWl (U.1 7) n (U.1 10) 1 5 0 c.1, c.2)) (w := 1) (by omega) (pWl_le 5 0 _ hp) m _ _ hd (fun h2 k2 m2 s2 => hQ h2 k2 m2 (s.tr s2))
  · refine aw_iconst (pc' := 10) (v := 2) eX7_clause_9 rfl (by decide) ?_
    refine aw_goto eX7_clause_10 (by decide) (tgt := 47) ?_
    refine aw_istore_n (pc' := 48) eX7_clause_47 rfl (by decide) ?_
    dsimp only [zst, zst2, zcut]
    have g6 : pAt (U.1 7) n c.1 114 = true := by (have z := c_6; (try simp only [zb_eq0, Bool.not_eq_false, Bool.not_eq_true, decide_eq_true_eq, decide_eq_false_iff_not, Decidable.not_not] at z); exact z)
    have ew : pWh (U.1 7) n c.1 = 2 := if_pos g6
    refine aw_iconst (pc' := 49) (v := 0) eX7_clause_48 rfl (by decide) ?_
    refine aw_istore_n (pc' := 50) eX7_clause_49 rfl (by decide) ?_
    dsimp only [zst, zst2, zcut]
    rw [pCl, ew] at hQ
    refine cl_words hn (w := 2) (k := k) (c := c) (by omega) _ (by omega) 5 0 0 c.1 _ (by omega) rfl hp hM (fun h' m s y' => ?_)
    exact cl_tail hn (c := (pWl (U.1 7) n (U.1 10) 2 5 0 c.1, c.2)) (w := 2) (by omega) (pWl_le 5 0 _ hp) m _ _ hd (fun h2 k2 m2 s2 => hQ h2 k2 m2 (s.tr s2))
end M10
