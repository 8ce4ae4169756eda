/-! the model's parser: a test, and what joins them -/
section M8
variable {l : Launch} {G : GT} {d u : Nat} {h : Hp} {U : MS} {Q : Option Value → Hp → Prop}
/-- which letter stands there -/
def pNm (R : Nat → Int32) (n : Nat) (L : Nat → Int32) (p : PP) : Nat → Int32
  | 0 => -1
  | k + 1 => if pAt R n p (L k) = true then nI k else pNm R n L p k
theorem pNm_lt {R : Nat → Int32} {n : Nat} {L : Nat → Int32} {p : PP} : ∀ {k : Nat}, pNm R n L p k ≠ -1 → p.1 < n ∧ ∃ j, j < k ∧ pNm R n L p k = nI j
  | 0, h => absurd rfl h
  | k + 1, h => by
    unfold pNm at h ⊢
    by_cases c : pAt R n p (L k) = true
    · rw [if_pos c]
      exact ⟨pAt_lt c, k, by omega, rfl⟩
    · rw [if_neg c] at h ⊢
      obtain ⟨h1, j, h2, h3⟩ := pNm_lt h
      exact ⟨h1, j, by omega, h3⟩
/-- what a test compares by -/
def pCm (R : Nat → Int32) (n : Nat) (p : PP) : Int32 := if pAt R n p 60 = true then -1 else if pAt R n p 62 = true then 1 else 0
def pSg (c : Int32) : Int32 := if c < 0 then 60 else if 0 < c then 62 else 61
def pRs (c x y : Int32) : Bool := if c < 0 then decide (x < y) else if 0 < c then decide (y < x) else decide (x = y)
def pTest (R : Nat → Int32) (n : Nat) (L N : Nat → Int32) (p : PP) : Bool × PP :=
  if pNm R n L p 6 = -1 then (false, (p.1, false)) else
    (pRs (pCm R n (p.1 + 1, p.2)) (N (pNm R n L p 6).toNatClampNeg) (pNum R n (pTk R n (p.1 + 1, p.2) (pSg (pCm R n (p.1 + 1, p.2))))).1, (pNum R n (pTk R n (p.1 + 1, p.2) (pSg (pCm R n (p.1 + 1, p.2))))).2)
theorem pTest_le {R : Nat → Int32} {n : Nat} {L N : Nat → Int32} {p : PP} (h : p.1 ≤ n) : (pTest R n L N p).2.1 ≤ n := by
  unfold pTest
  split
  · exact h
  · rename_i z
    have := (pNm_lt z).1
    exact pNum_le (pTk_le (by show p.1 + 1 ≤ n; omega))

abbrev mX7_test : MT := (RX7, cX7_test, 4, (some .boolean), false)
theorem eX7_test_0 : decode mX7_test.2.1 0 = .ok (.iconst (-1), 1) := by decide +kernel
theorem eX7_test_1 : decode mX7_test.2.1 1 = .ok (.istore_n 1, 1) := by decide +kernel
theorem eX7_test_2 : decode mX7_test.2.1 2 = .ok (.iconst 0, 1) := by decide +kernel
theorem eX7_test_3 : decode mX7_test.2.1 3 = .ok (.istore_n 2, 1) := by decide +kernel
theorem eX7_test_4 : decode mX7_test.2.1 4 = .ok (.iload_n 2, 1) := by decide +kernel
theorem eX7_test_5 : decode mX7_test.2.1 5 = .ok (.bipush 6, 2) := by decide +kernel
theorem eX7_test_7 : decode mX7_test.2.1 7 = .ok (.if_icmp .ge 28, 3) := by decide +kernel
theorem eX7_test_10 : decode mX7_test.2.1 10 = .ok (.aload_n 0, 1) := by decide +kernel
theorem eX7_test_11 : decode mX7_test.2.1 11 = .ok (.aload_n 0, 1) := by decide +kernel
theorem eX7_test_12 : decode mX7_test.2.1 12 = .ok (.getfield 40, 3) := by decide +kernel
theorem eX7_test_15 : decode mX7_test.2.1 15 = .ok (.iload_n 2, 1) := by decide +kernel
theorem eX7_test_16 : decode mX7_test.2.1 16 = .ok (.caload, 1) := by decide +kernel
theorem eX7_test_17 : decode mX7_test.2.1 17 = .ok (.invokevirtual 136, 3) := by decide +kernel
theorem eX7_test_20 : decode mX7_test.2.1 20 = .ok (.ifCond .eq 7, 3) := by decide +kernel
theorem eX7_test_23 : decode mX7_test.2.1 23 = .ok (.iload_n 2, 1) := by decide +kernel
theorem eX7_test_24 : decode mX7_test.2.1 24 = .ok (.goto 4, 3) := by decide +kernel
theorem eX7_test_27 : decode mX7_test.2.1 27 = .ok (.iload_n 1, 1) := by decide +kernel
theorem eX7_test_28 : decode mX7_test.2.1 28 = .ok (.istore_n 1, 1) := by decide +kernel
theorem eX7_test_29 : decode mX7_test.2.1 29 = .ok (.iinc 2 1, 3) := by decide +kernel
theorem eX7_test_32 : decode mX7_test.2.1 32 = .ok (.goto (-28), 3) := by decide +kernel
theorem eX7_test_35 : decode mX7_test.2.1 35 = .ok (.iload_n 1, 1) := by decide +kernel
theorem eX7_test_36 : decode mX7_test.2.1 36 = .ok (.iconst (-1), 1) := by decide +kernel
theorem eX7_test_37 : decode mX7_test.2.1 37 = .ok (.if_icmp .ne 10, 3) := by decide +kernel
theorem eX7_test_40 : decode mX7_test.2.1 40 = .ok (.aload_n 0, 1) := by decide +kernel
theorem eX7_test_41 : decode mX7_test.2.1 41 = .ok (.iconst 0, 1) := by decide +kernel
theorem eX7_test_42 : decode mX7_test.2.1 42 = .ok (.putfield 127, 3) := by decide +kernel
theorem eX7_test_45 : decode mX7_test.2.1 45 = .ok (.iconst 0, 1) := by decide +kernel
theorem eX7_test_46 : decode mX7_test.2.1 46 = .ok (.ireturn, 1) := by decide +kernel
theorem eX7_test_47 : decode mX7_test.2.1 47 = .ok (.aload_n 0, 1) := by decide +kernel
theorem eX7_test_48 : decode mX7_test.2.1 48 = .ok (.dup, 1) := by decide +kernel
theorem eX7_test_49 : decode mX7_test.2.1 49 = .ok (.getfield 130, 3) := by decide +kernel
theorem eX7_test_52 : decode mX7_test.2.1 52 = .ok (.iconst 1, 1) := by decide +kernel
theorem eX7_test_53 : decode mX7_test.2.1 53 = .ok (.iadd, 1) := by decide +kernel
theorem eX7_test_54 : decode mX7_test.2.1 54 = .ok (.putfield 130, 3) := by decide +kernel
theorem eX7_test_57 : decode mX7_test.2.1 57 = .ok (.aload_n 0, 1) := by decide +kernel
theorem eX7_test_58 : decode mX7_test.2.1 58 = .ok (.bipush 60, 2) := by decide +kernel
theorem eX7_test_60 : decode mX7_test.2.1 60 = .ok (.invokevirtual 136, 3) := by decide +kernel
theorem eX7_test_63 : decode mX7_test.2.1 63 = .ok (.ifCond .eq 7, 3) := by decide +kernel
theorem eX7_test_66 : decode mX7_test.2.1 66 = .ok (.iconst (-1), 1) := by decide +kernel
theorem eX7_test_67 : decode mX7_test.2.1 67 = .ok (.goto 17, 3) := by decide +kernel
theorem eX7_test_70 : decode mX7_test.2.1 70 = .ok (.aload_n 0, 1) := by decide +kernel
theorem eX7_test_71 : decode mX7_test.2.1 71 = .ok (.bipush 62, 2) := by decide +kernel
theorem eX7_test_73 : decode mX7_test.2.1 73 = .ok (.invokevirtual 136, 3) := by decide +kernel
theorem eX7_test_76 : decode mX7_test.2.1 76 = .ok (.ifCond .eq 7, 3) := by decide +kernel
theorem eX7_test_79 : decode mX7_test.2.1 79 = .ok (.iconst 1, 1) := by decide +kernel
theorem eX7_test_80 : decode mX7_test.2.1 80 = .ok (.goto 4, 3) := by decide +kernel
theorem eX7_test_83 : decode mX7_test.2.1 83 = .ok (.iconst 0, 1) := by decide +kernel
theorem eX7_test_84 : decode mX7_test.2.1 84 = .ok (.istore_n 2, 1) := by decide +kernel
theorem eX7_test_85 : decode mX7_test.2.1 85 = .ok (.aload_n 0, 1) := by decide +kernel
theorem eX7_test_86 : decode mX7_test.2.1 86 = .ok (.iload_n 2, 1) := by decide +kernel
theorem eX7_test_87 : decode mX7_test.2.1 87 = .ok (.ifCond .ge 8, 3) := by decide +kernel
theorem eX7_test_90 : decode mX7_test.2.1 90 = .ok (.bipush 60, 2) := by decide +kernel
theorem eX7_test_92 : decode mX7_test.2.1 92 = .ok (.goto 14, 3) := by decide +kernel
theorem eX7_test_95 : decode mX7_test.2.1 95 = .ok (.iload_n 2, 1) := by decide +kernel
theorem eX7_test_96 : decode mX7_test.2.1 96 = .ok (.ifCond .le 8, 3) := by decide +kernel
theorem eX7_test_99 : decode mX7_test.2.1 99 = .ok (.bipush 62, 2) := by decide +kernel
theorem eX7_test_101 : decode mX7_test.2.1 101 = .ok (.goto 5, 3) := by decide +kernel
theorem eX7_test_104 : decode mX7_test.2.1 104 = .ok (.bipush 61, 2) := by decide +kernel
theorem eX7_test_106 : decode mX7_test.2.1 106 = .ok (.invokevirtual 143, 3) := by decide +kernel
theorem eX7_test_109 : decode mX7_test.2.1 109 = .ok (.aload_n 0, 1) := by decide +kernel
theorem eX7_test_110 : decode mX7_test.2.1 110 = .ok (.invokevirtual 146, 3) := by decide +kernel
theorem eX7_test_113 : decode mX7_test.2.1 113 = .ok (.istore_n 3, 1) := by decide +kernel
theorem eX7_test_114 : decode mX7_test.2.1 114 = .ok (.iload_n 2, 1) := by decide +kernel
theorem eX7_test_115 : decode mX7_test.2.1 115 = .ok (.ifCond .ge 21, 3) := by decide +kernel
theorem eX7_test_118 : decode mX7_test.2.1 118 = .ok (.aload_n 0, 1) := by decide +kernel
theorem eX7_test_119 : decode mX7_test.2.1 119 = .ok (.getfield 37, 3) := by decide +kernel
theorem eX7_test_122 : decode mX7_test.2.1 122 = .ok (.iload_n 1, 1) := by decide +kernel
theorem eX7_test_123 : decode mX7_test.2.1 123 = .ok (.iaload, 1) := by decide +kernel
theorem eX7_test_124 : decode mX7_test.2.1 124 = .ok (.iload_n 3, 1) := by decide +kernel
theorem eX7_test_125 : decode mX7_test.2.1 125 = .ok (.if_icmp .ge 7, 3) := by decide +kernel
theorem eX7_test_128 : decode mX7_test.2.1 128 = .ok (.iconst 1, 1) := by decide +kernel
theorem eX7_test_129 : decode mX7_test.2.1 129 = .ok (.goto 44, 3) := by decide +kernel
theorem eX7_test_132 : decode mX7_test.2.1 132 = .ok (.iconst 0, 1) := by decide +kernel
theorem eX7_test_133 : decode mX7_test.2.1 133 = .ok (.goto 40, 3) := by decide +kernel
theorem eX7_test_136 : decode mX7_test.2.1 136 = .ok (.iload_n 2, 1) := by decide +kernel
theorem eX7_test_137 : decode mX7_test.2.1 137 = .ok (.ifCond .le 21, 3) := by decide +kernel
theorem eX7_test_140 : decode mX7_test.2.1 140 = .ok (.aload_n 0, 1) := by decide +kernel
theorem eX7_test_141 : decode mX7_test.2.1 141 = .ok (.getfield 37, 3) := by decide +kernel
theorem eX7_test_144 : decode mX7_test.2.1 144 = .ok (.iload_n 1, 1) := by decide +kernel
theorem eX7_test_145 : decode mX7_test.2.1 145 = .ok (.iaload, 1) := by decide +kernel
theorem eX7_test_146 : decode mX7_test.2.1 146 = .ok (.iload_n 3, 1) := by decide +kernel
theorem eX7_test_147 : decode mX7_test.2.1 147 = .ok (.if_icmp .le 7, 3) := by decide +kernel
theorem eX7_test_150 : decode mX7_test.2.1 150 = .ok (.iconst 1, 1) := by decide +kernel
theorem eX7_test_151 : decode mX7_test.2.1 151 = .ok (.goto 22, 3) := by decide +kernel
theorem eX7_test_154 : decode mX7_test.2.1 154 = .ok (.iconst 0, 1) := by decide +kernel
theorem eX7_test_155 : decode mX7_test.2.1 155 = .ok (.goto 18, 3) := by decide +kernel
theorem eX7_test_158 : decode mX7_test.2.1 158 = .ok (.aload_n 0, 1) := by decide +kernel
theorem eX7_test_159 : decode mX7_test.2.1 159 = .ok (.getfield 37, 3) := by decide +kernel
theorem eX7_test_162 : decode mX7_test.2.1 162 = .ok (.iload_n 1, 1) := by decide +kernel
theorem eX7_test_163 : decode mX7_test.2.1 163 = .ok (.iaload, 1) := by decide +kernel
theorem eX7_test_164 : decode mX7_test.2.1 164 = .ok (.iload_n 3, 1) := by decide +kernel
theorem eX7_test_165 : decode mX7_test.2.1 165 = .ok (.if_icmp .ne 7, 3) := by decide +kernel
theorem eX7_test_168 : decode mX7_test.2.1 168 = .ok (.iconst 1, 1) := by decide +kernel
theorem eX7_test_169 : decode mX7_test.2.1 169 = .ok (.goto 4, 3) := by decide +kernel
theorem eX7_test_172 : decode mX7_test.2.1 172 = .ok (.iconst 0, 1) := by decide +kernel
theorem eX7_test_173 : decode mX7_test.2.1 173 = .ok (.ireturn, 1) := by decide +kernel
theorem lp_X7_test {n : Nat} {p : PP} (hM : MAt h u (mp U p)) (hn : pOk U n) (ha : p.1 ≤ n) (hd : 1 ≤ d) (hQ : AW l G mX7_test d 0 0 Q 0 0 h [some (.ref u), some (.int (pNm (U.1 7) n (U.1 9) p 6)), some (.int (nI 6)), none] [] 35) : ∀ (k i : Nat) (x y : Int32), k = 6 - i → i ≤ 6 → x = pNm (U.1 7) n (U.1 9) p i → y = nI i → AW l G mX7_test d 0 0 Q 0 0 h [some (.ref u), some (.int x), some (.int y), none] [] 4 := by
  intro k
  induction k using Nat.strongRecOn with
  | _ k ih =>
    intro i x y hk hi hx hy
    subst hx
    subst hy
    refine aw_iload_n (pc' := 5) eX7_test_4 rfl rfl ?_
    refine aw_bipush (pc' := 7) (v := 6) eX7_test_5 rfl (by decide) ?_
    refine aw_icmp_ge (pc' := 10) (tgt := 35) eX7_test_7 rfl (by decide) (fun c_7 => ?_) (fun c_7 => ?_)
    · have c9 : 6 ≤ i := ge_nI (a := i) (b := 6) (by omega) (by omega) c_7
      obtain rfl : i = 6 := by omega
      exact hQ
    · have c9 := nge_nI (b := 6) (by omega) (by omega) c_7
      refine aw_aload_n (pc' := 11) eX7_test_10 rfl rfl trivial ?_
      refine aw_aload_n (pc' := 12) eX7_test_11 rfl rfl trivial ?_
      refine aw_Mref (pc' := 15) (kf := 17) 9 hM eX7_test_12 rfl (by decide) rfl q806 ?_
      refine aw_iload_n (pc' := 16) eX7_test_15 rfl rfl ?_
      refine aw_Mcld (pc' := 17) 9 hM eX7_test_16 rfl (by decide) (show vp_in _ 6 from vp_in_nI c9 (by omega)) ?_
      refine aw_callv (pc' := 20) (nn := 1) (c_X7_isAt (d := d - 1) hM hn ha _ (by omega)) eX7_test_17 rfl ⟨q921, q924, q62⟩ q923 q27 ⟨rfl, by decide +kernel, by decide +kernel, by decide +kernel⟩ rfl (by rw [hM.2.1]; exact ⟨rfl, rfl⟩) rfl ⟨by omega, by decide⟩ ⟨by omega, by omega⟩ rfl (Nat.le_of_ble_eq_true rfl) (fun v1 h2 hq3 => ?_)
      obtain ⟨rfl, rfl⟩ := hq3
      dsimp only [Option.toList, List.cons_append, List.nil_append]
      refine aw_if_eq (pc' := 23) (tgt := 27) eX7_test_20 rfl (by decide) (fun c_20 => ?_) (fun c_20 => ?_)
      · refine aw_iload_n (pc' := 28) eX7_test_27 rfl rfl ?_
        refine aw_istore_n (pc' := 29) eX7_test_28 rfl (by decide) ?_
        dsimp only [zst, zst2, zcut]
        refine aw_iinc (pc' := 32) eX7_test_29 rfl rfl rfl (by decide) ?_
        dsimp only [zst, zst2, zcut]
        refine aw_goto eX7_test_32 (by decide) (tgt := 4) ?_
        exact ih (6 - (i + 1)) (by omega) (i + 1) _ _ rfl (by omega) (by simp only [zb_eq0, Bool.not_eq_false, Bool.not_eq_true, decide_eq_true_eq, decide_eq_false_iff_not, Decidable.not_not, nI_clamp (show i < 2 ^ 31 by omega)] at c_20; rw [pNm]; first | exact (if_pos c_20).symm | exact (if_neg (by rw [show (mp U p).1 = U.1 from rfl] at c_20; rw [c_20]; decide)).symm) (nI_inc i)
      · refine aw_iload_n (pc' := 24) eX7_test_23 rfl rfl ?_
        refine aw_goto eX7_test_24 (by decide) (tgt := 28) ?_
        refine aw_istore_n (pc' := 29) eX7_test_28 rfl (by decide) ?_
        dsimp only [zst, zst2, zcut]
        refine aw_iinc (pc' := 32) eX7_test_29 rfl rfl rfl (by decide) ?_
        dsimp only [zst, zst2, zcut]
        refine aw_goto eX7_test_32 (by decide) (tgt := 4) ?_
        exact ih (6 - (i + 1)) (by omega) (i + 1) _ _ rfl (by omega) (by simp only [zb_eq0, Bool.not_eq_false, Bool.not_eq_true, decide_eq_true_eq, decide_eq_false_iff_not, Decidable.not_not, nI_clamp (show i < 2 ^ 31 by omega)] at c_20; rw [pNm]; first | exact (if_pos c_20).symm | exact (if_neg (by rw [show (mp U p).1 = U.1 from rfl] at c_20; rw [c_20]; decide)).symm) (nI_inc i)
theorem c_X7_test {n : Nat} {p : PP} (hM : MAt h u (mp U p)) (hn : pOk U n) (ha : p.1 ≤ n) (hd : 2 ≤ d) : Ct l G mX7_test yX7_test d 0 0 [.ref u] h (fun r h' => r = some (.int (zb (pTest (U.1 7) n (U.1 9) (U.1 8) p).1)) ∧ MAt h' u (mp U (pTest (U.1 7) n (U.1 9) (U.1 8) p).2) ∧ Same u 19 h h') := by
  refine ct_of (lv := [some (.ref u), none, none, none]) (by decide +kernel) rfl (fun z => by cases z) (fun _ => rfl) (fun _ => Nat.le_of_ble_eq_true rfl) ?_
  refine aw_iconst (pc' := 1) (v := -1) eX7_test_0 rfl (by decide) ?_
  refine aw_istore_n (pc' := 2) eX7_test_1 rfl (by decide) ?_
  dsimp only [zst, zst2, zcut]
  refine aw_iconst (pc' := 3) (v := 0) eX7_test_2 rfl (by decide) ?_
  refine aw_istore_n (pc' := 4) eX7_test_3 rfl (by decide) ?_
  dsimp only [zst, zst2, zcut]
  refine lp_X7_test hM hn ha (by omega) ?_ 6 0 _ _ (by omega) (by omega) rfl rfl
  refine aw_iload_n (pc' := 36) eX7_test_35 rfl rfl ?_
  refine aw_iconst (pc' := 37) (v := -1) eX7_test_36 rfl (by decide) ?_
  refine aw_icmp_ne (pc' := 40) (tgt := 47) eX7_test_37 rfl (by decide) (fun c_37 => ?_) (fun c_37 => ?_)
  · have q9 := pNm_lt c_37
    obtain ⟨j, hj, ej⟩ := q9.2
    have b9 := q9.1
    have n100 := hn.2
    have vj : vp_in (pNm (U.1 7) n (U.1 9) p 6) 6 := by rw [ej]; exact vp_in_nI hj (by omega)
    refine aw_aload_n (pc' := 48) eX7_test_47 rfl rfl trivial ?_
    refine aw_dup (pc' := 49) eX7_test_48 rfl rfl ?_
    refine aw_Mint (pc' := 52) (kf := 11) hM eX7_test_49 rfl (by decide) q800 ?_
    refine aw_iconst (pc' := 53) (v := 1) eX7_test_52 rfl (by decide) ?_
    refine aw_iadd (pc' := 54) eX7_test_53 rfl ?_
    refine aw_Mput (pc' := 57) 11 hM eX7_test_54 rfl (by decide) (fun z => absurd z (by decide)) q800 (fun h3 hM1 hs2 => ?_)
    have hM8 := hM1
    rw [show msc (mp U p) 11 ((mp U p).2.1 11 + 1) = mp U (p.1 + 1, p.2) from mp_at U p (p.1 + 1) (nI_1 p.1)] at hM8
    refine aw_aload_n (pc' := 58) eX7_test_57 rfl rfl trivial ?_
    refine aw_bipush (pc' := 60) (v := 60) eX7_test_58 rfl (by decide) ?_
    refine aw_callv (pc' := 63) (nn := 1) (c_X7_isAt (d := d - 1) hM8 hn (show p.1 + 1 ≤ n by omega) _ (by omega)) eX7_test_60 rfl ⟨q921, q924, q62⟩ q923 q27 ⟨rfl, by decide +kernel, by decide +kernel, by decide +kernel⟩ rfl (by rw [hM8.2.1]; exact ⟨rfl, rfl⟩) rfl ⟨by omega, by decide⟩ ⟨by omega, by omega⟩ rfl (Nat.le_of_ble_eq_true rfl) (fun v4 h5 hq6 => ?_)
    obtain ⟨rfl, rfl⟩ := hq6
    dsimp only [Option.toList, List.cons_append, List.nil_append]
    refine aw_if_eq (pc' := 66) (tgt := 70) eX7_test_63 rfl (by decide) (fun c_63 => ?_) (fun c_63 => ?_)
    · refine aw_aload_n (pc' := 71) eX7_test_70 rfl rfl trivial ?_
      refine aw_bipush (pc' := 73) (v := 62) eX7_test_71 rfl (by decide) ?_
      refine aw_callv (pc' := 76) (nn := 1) (c_X7_isAt (d := d - 1) hM8 hn (show p.1 + 1 ≤ n by omega) _ (by omega)) eX7_test_73 rfl ⟨q921, q924, q62⟩ q923 q27 ⟨rfl, by decide +kernel, by decide +kernel, by decide +kernel⟩ rfl (by rw [hM8.2.1]; exact ⟨rfl, rfl⟩) rfl ⟨by omega, by decide⟩ ⟨by omega, by omega⟩ rfl (Nat.le_of_ble_eq_true rfl) (fun v7 h8 hq9 => ?_)
      obtain ⟨rfl, rfl⟩ := hq9
      dsimp only [Option.toList, List.cons_append, List.nil_append]
      refine aw_if_eq (pc' := 79) (tgt := 83) eX7_test_76 rfl (by decide) (fun c_76 => ?_) (fun c_76 => ?_)
      · refine aw_iconst (pc' := 84) (v := 0) eX7_test_83 rfl (by decide) ?_
        refine aw_istore_n (pc' := 85) eX7_test_84 rfl (by decide) ?_
        dsimp only [zst, zst2, zcut]
        refine aw_aload_n (pc' := 86) eX7_test_85 rfl rfl trivial ?_
        refine aw_iload_n (pc' := 87) eX7_test_86 rfl rfl ?_
        refine aw_if_ge (pc' := 90) (tgt := 95) eX7_test_87 rfl (by decide) (fun c_87 => ?_) (fun c_87 => ?_)
        · refine aw_iload_n (pc' := 96) eX7_test_95 rfl rfl ?_
          refine aw_if_le (pc' := 99) (tgt := 104) eX7_test_96 rfl (by decide) (fun c_96 => ?_) (fun c_96 => ?_)
          · refine aw_bipush (pc' := 106) (v := 61) eX7_test_104 rfl (by decide) ?_
            refine aw_callv (pc' := 109) (nn := 1) (c_X7_takes (d := d - 1) hM8 hn (show p.1 + 1 ≤ n by omega) _ (by omega)) eX7_test_106 rfl ⟨q925, q928, q62⟩ q927 q28 ⟨rfl, by decide +kernel, by decide +kernel, by decide +kernel⟩ rfl (by rw [hM8.2.1]; exact ⟨rfl, rfl⟩) rfl ⟨by omega, by decide⟩ ⟨by omega, by omega⟩ rfl (Nat.le_of_ble_eq_true rfl) (fun v12 h13 hq14 => ?_)
            obtain ⟨rfl, hM10, hs11⟩ := hq14
            have hT15 := hs2.tr hs11
            dsimp only [Option.toList, List.cons_append, List.nil_append]
            refine aw_aload_n (pc' := 110) eX7_test_109 rfl rfl trivial ?_
            refine aw_callv (pc' := 113) (nn := 0) (c_X7_number (d := d - 1) hM10 hn (pTk_le (show p.1 + 1 ≤ n by omega)) (by omega)) eX7_test_110 rfl ⟨q929, q932, q62⟩ q931 q29 ⟨rfl, by decide +kernel, by decide +kernel, by decide +kernel⟩ rfl (by rw [hM10.2.1]; exact ⟨rfl, rfl⟩) rfl ⟨by omega, by decide⟩ ⟨by omega, by omega⟩ rfl (Nat.le_of_ble_eq_true rfl) (fun v18 h19 hq20 => ?_)
            obtain ⟨rfl, hM16, hs17⟩ := hq20
            have hT21 := hT15.tr hs17
            dsimp only [Option.toList, List.cons_append, List.nil_append]
            refine aw_istore_n (pc' := 114) eX7_test_113 rfl (by decide) ?_
            dsimp only [zst, zst2, zcut]
            refine aw_iload_n (pc' := 115) eX7_test_114 rfl rfl ?_
            refine aw_if_ge (pc' := 118) (tgt := 136) eX7_test_115 rfl (by decide) (fun c_115 => ?_) (fun c_115 => ?_)
            · refine aw_iload_n (pc' := 137) eX7_test_136 rfl rfl ?_
              refine aw_if_le (pc' := 140) (tgt := 158) eX7_test_137 rfl (by decide) (fun c_137 => ?_) (fun c_137 => ?_)
              · refine aw_aload_n (pc' := 159) eX7_test_158 rfl rfl trivial ?_
                refine aw_Mref (pc' := 162) (kf := 16) 8 hM16 eX7_test_159 rfl (by decide) rfl q805 ?_
                refine aw_iload_n (pc' := 163) eX7_test_162 rfl rfl ?_
                refine aw_MaldC (pc' := 164) 8 _ hM16 eX7_test_163 rfl (by decide) vj rfl ?_
                refine aw_iload_n (pc' := 165) eX7_test_164 rfl rfl ?_
                refine aw_icmp_ne (pc' := 168) (tgt := 172) eX7_test_165 rfl (by decide) (fun c_165 => ?_) (fun c_165 => ?_)
                · refine aw_iconst (pc' := 173) (v := 0) eX7_test_172 rfl (by decide) ?_
                  refine aw_ret (v := some (.int _)) eX7_test_173 ⟨rfl, rfl⟩ (by omega) (by omega) rfl ?_
                  try simp only [zb_eq0, Bool.not_eq_false, Bool.not_eq_true, decide_eq_true_eq, decide_eq_false_iff_not, Decidable.not_not] at c_63
                  try simp only [zb_eq0, Bool.not_eq_false, Bool.not_eq_true, decide_eq_true_eq, decide_eq_false_iff_not, Decidable.not_not] at c_76
                  first
                    | have ec : pCm (U.1 7) n (p.1 + 1, p.2) = 1 := by rw [pCm, if_neg (by rw [c_63]; decide), if_pos c_76]
                      exact ⟨by rw [pTest, if_neg c_37, ec]; have cl := c_165; simp only [show ∀ q, (mp U q).1 = U.1 from fun _ => rfl, i32_nlt, i32_nle, ge_iff_le, gt_iff_lt, ne_eq, Decidable.not_not] at cl; simp [pRs, zb, cl, i32_nlt, i32_nle, show pSg (-1) = 60 from rfl, show pSg 1 = 62 from rfl, show pSg 0 = 61 from rfl, show ∀ q, (mp U q).1 = U.1 from fun _ => rfl], by rw [pTest, if_neg c_37, ec]; exact hM16, hT21⟩
                    | have ec : pCm (U.1 7) n (p.1 + 1, p.2) = 0 := by rw [pCm, if_neg (by rw [c_63]; decide), if_neg (by rw [c_76]; decide)]
                      exact ⟨by rw [pTest, if_neg c_37, ec]; have cl := c_165; simp only [show ∀ q, (mp U q).1 = U.1 from fun _ => rfl, i32_nlt, i32_nle, ge_iff_le, gt_iff_lt, ne_eq, Decidable.not_not] at cl; simp [pRs, zb, cl, i32_nlt, i32_nle, show pSg (-1) = 60 from rfl, show pSg 1 = 62 from rfl, show pSg 0 = 61 from rfl, show ∀ q, (mp U q).1 = U.1 from fun _ => rfl], by rw [pTest, if_neg c_37, ec]; exact hM16, hT21⟩
                  
                · refine aw_iconst (pc' := 169) (v := 1) eX7_test_168 rfl (by decide) ?_
                  refine aw_goto eX7_test_169 (by decide) (tgt := 173) ?_
                  refine aw_ret (v := some (.int _)) eX7_test_173 ⟨rfl, rfl⟩ (by omega) (by omega) rfl ?_
                  try simp only [zb_eq0, Bool.not_eq_false, Bool.not_eq_true, decide_eq_true_eq, decide_eq_false_iff_not, Decidable.not_not] at c_63
                  try simp only [zb_eq0, Bool.not_eq_false, Bool.not_eq_true, decide_eq_true_eq, decide_eq_false_iff_not, Decidable.not_not] at c_76
                  first
                    | have ec : pCm (U.1 7) n (p.1 + 1, p.2) = 1 := by rw [pCm, if_neg (by rw [c_63]; decide), if_pos c_76]
                      exact ⟨by rw [pTest, if_neg c_37, ec]; have cl := c_165; simp only [show ∀ q, (mp U q).1 = U.1 from fun _ => rfl, i32_nlt, i32_nle, ge_iff_le, gt_iff_lt, ne_eq, Decidable.not_not] at cl; simp [pRs, zb, cl, i32_nlt, i32_nle, show pSg (-1) = 60 from rfl, show pSg 1 = 62 from rfl, show pSg 0 = 61 from rfl, show ∀ q, (mp U q).1 = U.1 from fun _ => rfl], by rw [pTest, if_neg c_37, ec]; exact hM16, hT21⟩
                    | have ec : pCm (U.1 7) n (p.1 + 1, p.2) = 0 := by rw [pCm, if_neg (by rw [c_63]; decide), if_neg (by rw [c_76]; decide)]
                      exact ⟨by rw [pTest, if_neg c_37, ec]; have cl := c_165; simp only [show ∀ q, (mp U q).1 = U.1 from fun _ => rfl, i32_nlt, i32_nle, ge_iff_le, gt_iff_lt, ne_eq, Decidable.not_not] at cl; simp [pRs, zb, cl, i32_nlt, i32_nle, show pSg (-1) = 60 from rfl, show pSg 1 = 62 from rfl, show pSg 0 = 61 from rfl, show ∀ q, (mp U q).1 = U.1 from fun _ => rfl], by rw [pTest, if_neg c_37, ec]; exact hM16, hT21⟩
                  
              · exact absurd c_137 (by decide)
            · exact absurd c_115 (by decide)
          · exact absurd c_96 (by decide)
        · exact absurd c_87 (by decide)
      · refine aw_iconst (pc' := 80) (v := 1) eX7_test_79 rfl (by decide) ?_
        refine aw_goto eX7_test_80 (by decide) (tgt := 84) ?_
        refine aw_istore_n (pc' := 85) eX7_test_84 rfl (by decide) ?_
        dsimp only [zst, zst2, zcut]
        refine aw_aload_n (pc' := 86) eX7_test_85 rfl rfl trivial ?_
        refine aw_iload_n (pc' := 87) eX7_test_86 rfl rfl ?_
        refine aw_if_ge (pc' := 90) (tgt := 95) eX7_test_87 rfl (by decide) (fun c_87 => ?_) (fun c_87 => ?_)
        · refine aw_iload_n (pc' := 96) eX7_test_95 rfl rfl ?_
          refine aw_if_le (pc' := 99) (tgt := 104) eX7_test_96 rfl (by decide) (fun c_96 => ?_) (fun c_96 => ?_)
          · exact absurd c_96 (by decide)
          · refine aw_bipush (pc' := 101) (v := 62) eX7_test_99 rfl (by decide) ?_
            refine aw_goto eX7_test_101 (by decide) (tgt := 106) ?_
            refine aw_callv (pc' := 109) (nn := 1) (c_X7_takes (d := d - 1) hM8 hn (show p.1 + 1 ≤ n by omega) _ (by omega)) eX7_test_106 rfl ⟨q925, q928, q62⟩ q927 q28 ⟨rfl, by decide +kernel, by decide +kernel, by decide +kernel⟩ rfl (by rw [hM8.2.1]; exact ⟨rfl, rfl⟩) rfl ⟨by omega, by decide⟩ ⟨by omega, by omega⟩ rfl (Nat.le_of_ble_eq_true rfl) (fun v24 h25 hq26 => ?_)
            obtain ⟨rfl, hM22, hs23⟩ := hq26
            have hT27 := hs2.tr hs23
            dsimp only [Option.toList, List.cons_append, List.nil_append]
            refine aw_aload_n (pc' := 110) eX7_test_109 rfl rfl trivial ?_
            refine aw_callv (pc' := 113) (nn := 0) (c_X7_number (d := d - 1) hM22 hn (pTk_le (show p.1 + 1 ≤ n by omega)) (by omega)) eX7_test_110 rfl ⟨q929, q932, q62⟩ q931 q29 ⟨rfl, by decide +kernel, by decide +kernel, by decide +kernel⟩ rfl (by rw [hM22.2.1]; exact ⟨rfl, rfl⟩) rfl ⟨by omega, by decide⟩ ⟨by omega, by omega⟩ rfl (Nat.le_of_ble_eq_true rfl) (fun v30 h31 hq32 => ?_)
            obtain ⟨rfl, hM28, hs29⟩ := hq32
            have hT33 := hT27.tr hs29
            dsimp only [Option.toList, List.cons_append, List.nil_append]
            refine aw_istore_n (pc' := 114) eX7_test_113 rfl (by decide) ?_
            dsimp only [zst, zst2, zcut]
            refine aw_iload_n (pc' := 115) eX7_test_114 rfl rfl ?_
            refine aw_if_ge (pc' := 118) (tgt := 136) eX7_test_115 rfl (by decide) (fun c_115 => ?_) (fun c_115 => ?_)
            · refine aw_iload_n (pc' := 137) eX7_test_136 rfl rfl ?_
              refine aw_if_le (pc' := 140) (tgt := 158) eX7_test_137 rfl (by decide) (fun c_137 => ?_) (fun c_137 => ?_)
              · exact absurd c_137 (by decide)
              · refine aw_aload_n (pc' := 141) eX7_test_140 rfl rfl trivial ?_
                refine aw_Mref (pc' := 144) (kf := 16) 8 hM28 eX7_test_141 rfl (by decide) rfl q805 ?_
                refine aw_iload_n (pc' := 145) eX7_test_144 rfl rfl ?_
                refine aw_MaldC (pc' := 146) 8 _ hM28 eX7_test_145 rfl (by decide) vj rfl ?_
                refine aw_iload_n (pc' := 147) eX7_test_146 rfl rfl ?_
                refine aw_icmp_le (pc' := 150) (tgt := 154) eX7_test_147 rfl (by decide) (fun c_147 => ?_) (fun c_147 => ?_)
                · refine aw_iconst (pc' := 155) (v := 0) eX7_test_154 rfl (by decide) ?_
                  refine aw_goto eX7_test_155 (by decide) (tgt := 173) ?_
                  refine aw_ret (v := some (.int _)) eX7_test_173 ⟨rfl, rfl⟩ (by omega) (by omega) rfl ?_
                  try simp only [zb_eq0, Bool.not_eq_false, Bool.not_eq_true, decide_eq_true_eq, decide_eq_false_iff_not, Decidable.not_not] at c_63
                  try simp only [zb_eq0, Bool.not_eq_false, Bool.not_eq_true, decide_eq_true_eq, decide_eq_false_iff_not, Decidable.not_not] at c_76
                  first
                    | have ec : pCm (U.1 7) n (p.1 + 1, p.2) = 1 := by rw [pCm, if_neg (by rw [c_63]; decide), if_pos c_76]
                      exact ⟨by rw [pTest, if_neg c_37, ec]; have cl := c_147; simp only [show ∀ q, (mp U q).1 = U.1 from fun _ => rfl, i32_nlt, i32_nle, ge_iff_le, gt_iff_lt, ne_eq, Decidable.not_not] at cl; simp [pRs, zb, cl, i32_nlt, i32_nle, show pSg (-1) = 60 from rfl, show pSg 1 = 62 from rfl, show pSg 0 = 61 from rfl, show ∀ q, (mp U q).1 = U.1 from fun _ => rfl], by rw [pTest, if_neg c_37, ec]; exact hM28, hT33⟩
                    | have ec : pCm (U.1 7) n (p.1 + 1, p.2) = 0 := by rw [pCm, if_neg (by rw [c_63]; decide), if_neg (by rw [c_76]; decide)]
                      exact ⟨by rw [pTest, if_neg c_37, ec]; have cl := c_147; simp only [show ∀ q, (mp U q).1 = U.1 from fun _ => rfl, i32_nlt, i32_nle, ge_iff_le, gt_iff_lt, ne_eq, Decidable.not_not] at cl; simp [pRs, zb, cl, i32_nlt, i32_nle, show pSg (-1) = 60 from rfl, show pSg 1 = 62 from rfl, show pSg 0 = 61 from rfl, show ∀ q, (mp U q).1 = U.1 from fun _ => rfl], by rw [pTest, if_neg c_37, ec]; exact hM28, hT33⟩
                  
                · refine aw_iconst (pc' := 151) (v := 1) eX7_test_150 rfl (by decide) ?_
                  refine aw_goto eX7_test_151 (by decide) (tgt := 173) ?_
                  refine aw_ret (v := some (.int _)) eX7_test_173 ⟨rfl, rfl⟩ (by omega) (by omega) rfl ?_
                  try simp only [zb_eq0, Bool.not_eq_false, Bool.not_eq_true, decide_eq_true_eq, decide_eq_false_iff_not, Decidable.not_not] at c_63
                  try simp only [zb_eq0, Bool.not_eq_false, Bool.not_eq_true, decide_eq_true_eq, decide_eq_false_iff_not, Decidable.not_not] at c_76
                  first
                    | have ec : pCm (U.1 7) n (p.1 + 1, p.2) = 1 := by rw [pCm, if_neg (by rw [c_63]; decide), if_pos c_76]
                      exact ⟨by rw [pTest, if_neg c_37, ec]; have cl := c_147; simp only [show ∀ q, (mp U q).1 = U.1 from fun _ => rfl, i32_nlt, i32_nle, ge_iff_le, gt_iff_lt, ne_eq, Decidable.not_not] at cl; simp [pRs, zb, cl, i32_nlt, i32_nle, show pSg (-1) = 60 from rfl, show pSg 1 = 62 from rfl, show pSg 0 = 61 from rfl, show ∀ q, (mp U q).1 = U.1 from fun _ => rfl], by rw [pTest, if_neg c_37, ec]; exact hM28, hT33⟩
                    | have ec : pCm (U.1 7) n (p.1 + 1, p.2) = 0 := by rw [pCm, if_neg (by rw [c_63]; decide), if_neg (by rw [c_76]; decide)]
                      exact ⟨by rw [pTest, if_neg c_37, ec]; have cl := c_147; simp only [show ∀ q, (mp U q).1 = U.1 from fun _ => rfl, i32_nlt, i32_nle, ge_iff_le, gt_iff_lt, ne_eq, Decidable.not_not] at cl; simp [pRs, zb, cl, i32_nlt, i32_nle, show pSg (-1) = 60 from rfl, show pSg 1 = 62 from rfl, show pSg 0 = 61 from rfl, show ∀ q, (mp U q).1 = U.1 from fun _ => rfl], by rw [pTest, if_neg c_37, ec]; exact hM28, hT33⟩
                  
            · exact absurd c_115 (by decide)
        · exact absurd c_87 (by decide)
    · refine aw_iconst (pc' := 67) (v := -1) eX7_test_66 rfl (by decide) ?_
      refine aw_goto eX7_test_67 (by decide) (tgt := 84) ?_
      refine aw_istore_n (pc' := 85) eX7_test_84 rfl (by decide) ?_
      dsimp only [zst, zst2, zcut]
      refine aw_aload_n (pc' := 86) eX7_test_85 rfl rfl trivial ?_
      refine aw_iload_n (pc' := 87) eX7_test_86 rfl rfl ?_
      refine aw_if_ge (pc' := 90) (tgt := 95) eX7_test_87 rfl (by decide) (fun c_87 => ?_) (fun c_87 => ?_)
      · exact absurd c_87 (by decide)
      · refine aw_bipush (pc' := 92) (v := 60) eX7_test_90 rfl (by decide) ?_
        refine aw_goto eX7_test_92 (by decide) (tgt := 106) ?_
        refine aw_callv (pc' := 109) (nn := 1) (c_X7_takes (d := d - 1) hM8 hn (show p.1 + 1 ≤ n by omega) _ (by omega)) eX7_test_106 rfl ⟨q925, q928, q62⟩ q927 q28 ⟨rfl, by decide +kernel, by decide +kernel, by decide +kernel⟩ rfl (by rw [hM8.2.1]; exact ⟨rfl, rfl⟩) rfl ⟨by omega, by decide⟩ ⟨by omega, by omega⟩ rfl (Nat.le_of_ble_eq_true rfl) (fun v36 h37 hq38 => ?_)
        obtain ⟨rfl, hM34, hs35⟩ := hq38
        have hT39 := hs2.tr hs35
        dsimp only [Option.toList, List.cons_append, List.nil_append]
        refine aw_aload_n (pc' := 110) eX7_test_109 rfl rfl trivial ?_
        refine aw_callv (pc' := 113) (nn := 0) (c_X7_number (d := d - 1) hM34 hn (pTk_le (show p.1 + 1 ≤ n by omega)) (by omega)) eX7_test_110 rfl ⟨q929, q932, q62⟩ q931 q29 ⟨rfl, by decide +kernel, by decide +kernel, by decide +kernel⟩ rfl (by rw [hM34.2.1]; exact ⟨rfl, rfl⟩) rfl ⟨by omega, by decide⟩ ⟨by omega, by omega⟩ rfl (Nat.le_of_ble_eq_true rfl) (fun v42 h43 hq44 => ?_)
        obtain ⟨rfl, hM40, hs41⟩ := hq44
        have hT45 := hT39.tr hs41
        dsimp only [Option.toList, List.cons_append, List.nil_append]
        refine aw_istore_n (pc' := 114) eX7_test_113 rfl (by decide) ?_
        dsimp only [zst, zst2, zcut]
        refine aw_iload_n (pc' := 115) eX7_test_114 rfl rfl ?_
        refine aw_if_ge (pc' := 118) (tgt := 136) eX7_test_115 rfl (by decide) (fun c_115 => ?_) (fun c_115 => ?_)
        · exact absurd c_115 (by decide)
        · refine aw_aload_n (pc' := 119) eX7_test_118 rfl rfl trivial ?_
          refine aw_Mref (pc' := 122) (kf := 16) 8 hM40 eX7_test_119 rfl (by decide) rfl q805 ?_
          refine aw_iload_n (pc' := 123) eX7_test_122 rfl rfl ?_
          refine aw_MaldC (pc' := 124) 8 _ hM40 eX7_test_123 rfl (by decide) vj rfl ?_
          refine aw_iload_n (pc' := 125) eX7_test_124 rfl rfl ?_
          refine aw_icmp_ge (pc' := 128) (tgt := 132) eX7_test_125 rfl (by decide) (fun c_125 => ?_) (fun c_125 => ?_)
          · refine aw_iconst (pc' := 133) (v := 0) eX7_test_132 rfl (by decide) ?_
            refine aw_goto eX7_test_133 (by decide) (tgt := 173) ?_
            refine aw_ret (v := some (.int _)) eX7_test_173 ⟨rfl, rfl⟩ (by omega) (by omega) rfl ?_
            try simp only [zb_eq0, Bool.not_eq_false, Bool.not_eq_true, decide_eq_true_eq, decide_eq_false_iff_not, Decidable.not_not] at c_63
            have ec : pCm (U.1 7) n (p.1 + 1, p.2) = -1 := by rw [pCm]; exact if_pos c_63
            exact ⟨by rw [pTest, if_neg c_37, ec]; have cl := c_125; simp only [show ∀ q, (mp U q).1 = U.1 from fun _ => rfl, i32_nlt, i32_nle, ge_iff_le, gt_iff_lt, ne_eq, Decidable.not_not] at cl; simp [pRs, zb, cl, i32_nlt, i32_nle, show pSg (-1) = 60 from rfl, show pSg 1 = 62 from rfl, show pSg 0 = 61 from rfl, show ∀ q, (mp U q).1 = U.1 from fun _ => rfl], by rw [pTest, if_neg c_37, ec]; exact hM40, hT45⟩
          · refine aw_iconst (pc' := 129) (v := 1) eX7_test_128 rfl (by decide) ?_
            refine aw_goto eX7_test_129 (by decide) (tgt := 173) ?_
            refine aw_ret (v := some (.int _)) eX7_test_173 ⟨rfl, rfl⟩ (by omega) (by omega) rfl ?_
            try simp only [zb_eq0, Bool.not_eq_false, Bool.not_eq_true, decide_eq_true_eq, decide_eq_false_iff_not, Decidable.not_not] at c_63
            have ec : pCm (U.1 7) n (p.1 + 1, p.2) = -1 := by rw [pCm]; exact if_pos c_63
            exact ⟨by rw [pTest, if_neg c_37, ec]; have cl := c_125; simp only [show ∀ q, (mp U q).1 = U.1 from fun _ => rfl, i32_nlt, i32_nle, ge_iff_le, gt_iff_lt, ne_eq, Decidable.not_not] at cl; simp [pRs, zb, cl, i32_nlt, i32_nle, show pSg (-1) = 60 from rfl, show pSg 1 = 62 from rfl, show pSg 0 = 61 from rfl, show ∀ q, (mp U q).1 = U.1 from fun _ => rfl], by rw [pTest, if_neg c_37, ec]; exact hM40, hT45⟩
  · refine aw_aload_n (pc' := 41) eX7_test_40 rfl rfl trivial ?_
    refine aw_iconst (pc' := 42) (v := 0) eX7_test_41 rfl (by decide) ?_
    refine aw_Mput (pc' := 45) 12 hM eX7_test_42 rfl (by decide) (fun _ => by decide) q801 (fun h48 hM46 hs47 => ?_)
    refine aw_iconst (pc' := 46) (v := 0) eX7_test_45 rfl (by decide) ?_
    refine aw_ret (v := some (.int _)) eX7_test_46 ⟨rfl, rfl⟩ (by omega) (by omega) rfl ?_
    have hM9 := hM46
    rw [mp_well U p false (x := 0) rfl] at hM9
    exact ⟨by rw [pTest, if_pos c_37]; rfl, by rw [pTest, if_pos c_37]; exact hM9, hs47⟩
end M8
