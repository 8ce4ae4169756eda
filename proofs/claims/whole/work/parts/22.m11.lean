/-! the model's parser: a whole text, read for a teller *and* charted -/
section M11
variable {l : Launch} {G : GT} {u : Nat} {U : MS} {d n : Nat} {h : Hp} {Q : Option Value → Hp → Prop}
theorem nI_all (x : Int32) : ∃ k, x = nI k := ⟨x.toBitVec.toNat, by
  apply Int32.toBitVec_inj.mp
  show x.toBitVec = (Int32.ofNat x.toBitVec.toNat).toBitVec
  simp [Int32.ofNat]⟩
def pRl (R : Nat → Int32) (n : Nat) (L N W : Nat → Int32) : Nat → CS → CS
  | 0, c => c
  | j + 1, c => if pAt R n c.1 59 = true then pRl R n L N W j (pCl R n L N W ((c.1.1 + 1, c.1.2), c.2)) else c
def pRA (R : Nat → Int32) (n : Nat) (L N W : Nat → Int32) : CS := pRl R n L N W 9 (pCl R n L N W ((0, true), N 3, 30))
def pGood (n : Nat) (c : CS) : Bool := c.1.2 && decide (c.1.1 = n)
theorem pRl_le {R : Nat → Int32} {n : Nat} {L N W : Nat → Int32} : ∀ (j : Nat) (c : CS), c.1.1 ≤ n → (pRl R n L N W j c).1.1 ≤ n
  | 0, _, h => h
  | j + 1, c, h => by
    unfold pRl
    split
    · rename_i z
      have := pAt_lt z
      exact pRl_le j _ (pCl_le (by show c.1.1 + 1 ≤ n; omega))
    · exact h
theorem pRA_le {R : Nat → Int32} {n : Nat} {L N W : Nat → Int32} : (pRA R n L N W).1.1 ≤ n := pRl_le 9 _ (pCl_le (Nat.zero_le n))
theorem start_eq {U : MS} {k : Nat} (hk : U.2.1 13 = nI k) (s : Int32) : msc (msc (msc (msc U 11 0) 12 1) 14 s) 15 30 = mp (wk (sr U s 30) k) (0, true) := by
  unfold mp wk sr msc
  congr 2
  funext j
  by_cases h1 : j = 11
  · subst h1; rfl
  · by_cases h2 : j = 12
    · subst h2; rfl
    · by_cases h3 : j = 13
      · subst h3; simp; exact hk
      · simp [h1, h2, h3]

abbrev mX7_readAll : MT := (RX7, cX7_readAll, 2, (some .boolean), false)
theorem eX7_readAll_0 : decode mX7_readAll.2.1 0 = .ok (.aload_n 0, 1) := by decide +kernel
theorem eX7_readAll_1 : decode mX7_readAll.2.1 1 = .ok (.iconst 0, 1) := by decide +kernel
theorem eX7_readAll_2 : decode mX7_readAll.2.1 2 = .ok (.putfield 130, 3) := by decide +kernel
theorem eX7_readAll_5 : decode mX7_readAll.2.1 5 = .ok (.aload_n 0, 1) := by decide +kernel
theorem eX7_readAll_6 : decode mX7_readAll.2.1 6 = .ok (.iconst 1, 1) := by decide +kernel
theorem eX7_readAll_7 : decode mX7_readAll.2.1 7 = .ok (.putfield 127, 3) := by decide +kernel
theorem eX7_readAll_10 : decode mX7_readAll.2.1 10 = .ok (.aload_n 0, 1) := by decide +kernel
theorem eX7_readAll_11 : decode mX7_readAll.2.1 11 = .ok (.aload_n 0, 1) := by decide +kernel
theorem eX7_readAll_12 : decode mX7_readAll.2.1 12 = .ok (.getfield 37, 3) := by decide +kernel
theorem eX7_readAll_15 : decode mX7_readAll.2.1 15 = .ok (.iconst 3, 1) := by decide +kernel
theorem eX7_readAll_16 : decode mX7_readAll.2.1 16 = .ok (.iaload, 1) := by decide +kernel
theorem eX7_readAll_17 : decode mX7_readAll.2.1 17 = .ok (.putfield 168, 3) := by decide +kernel
theorem eX7_readAll_20 : decode mX7_readAll.2.1 20 = .ok (.aload_n 0, 1) := by decide +kernel
theorem eX7_readAll_21 : decode mX7_readAll.2.1 21 = .ok (.bipush 30, 2) := by decide +kernel
theorem eX7_readAll_23 : decode mX7_readAll.2.1 23 = .ok (.putfield 165, 3) := by decide +kernel
theorem eX7_readAll_26 : decode mX7_readAll.2.1 26 = .ok (.iconst 1, 1) := by decide +kernel
theorem eX7_readAll_27 : decode mX7_readAll.2.1 27 = .ok (.istore_n 1, 1) := by decide +kernel
theorem eX7_readAll_28 : decode mX7_readAll.2.1 28 = .ok (.aload_n 0, 1) := by decide +kernel
theorem eX7_readAll_29 : decode mX7_readAll.2.1 29 = .ok (.invokevirtual 171, 3) := by decide +kernel
theorem eX7_readAll_32 : decode mX7_readAll.2.1 32 = .ok (.iload_n 1, 1) := by decide +kernel
theorem eX7_readAll_33 : decode mX7_readAll.2.1 33 = .ok (.bipush 10, 2) := by decide +kernel
theorem eX7_readAll_35 : decode mX7_readAll.2.1 35 = .ok (.if_icmp .ge 32, 3) := by decide +kernel
theorem eX7_readAll_38 : decode mX7_readAll.2.1 38 = .ok (.aload_n 0, 1) := by decide +kernel
theorem eX7_readAll_39 : decode mX7_readAll.2.1 39 = .ok (.bipush 59, 2) := by decide +kernel
theorem eX7_readAll_41 : decode mX7_readAll.2.1 41 = .ok (.invokevirtual 136, 3) := by decide +kernel
theorem eX7_readAll_44 : decode mX7_readAll.2.1 44 = .ok (.ifCond .eq 23, 3) := by decide +kernel
theorem eX7_readAll_47 : decode mX7_readAll.2.1 47 = .ok (.aload_n 0, 1) := by decide +kernel
theorem eX7_readAll_48 : decode mX7_readAll.2.1 48 = .ok (.dup, 1) := by decide +kernel
theorem eX7_readAll_49 : decode mX7_readAll.2.1 49 = .ok (.getfield 130, 3) := by decide +kernel
theorem eX7_readAll_52 : decode mX7_readAll.2.1 52 = .ok (.iconst 1, 1) := by decide +kernel
theorem eX7_readAll_53 : decode mX7_readAll.2.1 53 = .ok (.iadd, 1) := by decide +kernel
theorem eX7_readAll_54 : decode mX7_readAll.2.1 54 = .ok (.putfield 130, 3) := by decide +kernel
theorem eX7_readAll_57 : decode mX7_readAll.2.1 57 = .ok (.aload_n 0, 1) := by decide +kernel
theorem eX7_readAll_58 : decode mX7_readAll.2.1 58 = .ok (.invokevirtual 171, 3) := by decide +kernel
theorem eX7_readAll_61 : decode mX7_readAll.2.1 61 = .ok (.iinc 1 1, 3) := by decide +kernel
theorem eX7_readAll_64 : decode mX7_readAll.2.1 64 = .ok (.goto (-32), 3) := by decide +kernel
theorem eX7_readAll_67 : decode mX7_readAll.2.1 67 = .ok (.aload_n 0, 1) := by decide +kernel
theorem eX7_readAll_68 : decode mX7_readAll.2.1 68 = .ok (.getfield 127, 3) := by decide +kernel
theorem eX7_readAll_71 : decode mX7_readAll.2.1 71 = .ok (.ifCond .eq 18, 3) := by decide +kernel
theorem eX7_readAll_74 : decode mX7_readAll.2.1 74 = .ok (.aload_n 0, 1) := by decide +kernel
theorem eX7_readAll_75 : decode mX7_readAll.2.1 75 = .ok (.getfield 130, 3) := by decide +kernel
theorem eX7_readAll_78 : decode mX7_readAll.2.1 78 = .ok (.aload_n 0, 1) := by decide +kernel
theorem eX7_readAll_79 : decode mX7_readAll.2.1 79 = .ok (.getfield 133, 3) := by decide +kernel
theorem eX7_readAll_82 : decode mX7_readAll.2.1 82 = .ok (.if_icmp .ne 7, 3) := by decide +kernel
theorem eX7_readAll_85 : decode mX7_readAll.2.1 85 = .ok (.iconst 1, 1) := by decide +kernel
theorem eX7_readAll_86 : decode mX7_readAll.2.1 86 = .ok (.goto 4, 3) := by decide +kernel
theorem eX7_readAll_89 : decode mX7_readAll.2.1 89 = .ok (.iconst 0, 1) := by decide +kernel
theorem eX7_readAll_90 : decode mX7_readAll.2.1 90 = .ok (.ireturn, 1) := by decide +kernel
theorem lp_X7_readAll (hn : pOk U n) (hd : 19 ≤ d) : ∀ (j : Nat) (c : CS) (k : Nat) (h : Hp) (i : Nat) (y : Int32), i + j = 10 → y = nI i → c.1.1 ≤ n → MAt h u (mp (wk (sr U c.2.1 c.2.2) k) c.1) → (∀ h' k', MAt h' u (mp (wk (sr U (pRl (U.1 7) n (U.1 9) (U.1 8) (U.1 10) j c).2.1 (pRl (U.1 7) n (U.1 9) (U.1 8) (U.1 10) j c).2.2) k') (pRl (U.1 7) n (U.1 9) (U.1 8) (U.1 10) j c).1) → Same u 19 h h' → ∀ y', AW l G mX7_readAll d 0 0 Q 0 0 h' [some (.ref u), some (.int y')] [] 67) → AW l G mX7_readAll d 0 0 Q 0 0 h [some (.ref u), some (.int y)] [] 32 := by
  have n100 := hn.2
  intro j
  induction j with
  | zero =>
    intro c k h i y hij hy hp hM hQ
    subst hy
    have i5 : i = 10 := by omega
    subst i5
    refine aw_iload_n (pc' := 33) eX7_readAll_32 rfl rfl ?_
    refine aw_bipush (pc' := 35) (v := 10) eX7_readAll_33 rfl (by decide) ?_
    refine aw_icmp_ge (pc' := 38) (tgt := 67) eX7_readAll_35 rfl (by decide) (fun c_35 => ?_) (fun c_35 => ?_)
    · exact hQ _ k hM Same.rf _
    · exact absurd (by decide) c_35
  | succ j ih =>
    intro c k h i y hij hy hp hM hQ
    subst hy
    refine aw_iload_n (pc' := 33) eX7_readAll_32 rfl rfl ?_
    refine aw_bipush (pc' := 35) (v := 10) eX7_readAll_33 rfl (by decide) ?_
    refine aw_icmp_ge (pc' := 38) (tgt := 67) eX7_readAll_35 rfl (by decide) (fun c_35 => ?_) (fun c_35 => ?_)
    · exact absurd (ge_nI (a := i) (b := 10) (by omega) (by omega) c_35) (by omega)
    · refine aw_aload_n (pc' := 39) eX7_readAll_38 rfl rfl trivial ?_
      refine aw_bipush (pc' := 41) (v := 59) eX7_readAll_39 rfl (by decide) ?_
      refine aw_callv (pc' := 44) (nn := 1) (c_X7_isAt (d := d - 1) hM (show pOk (wk (sr U c.2.1 c.2.2) k) n from hn) hp _ (by omega)) eX7_readAll_41 rfl ⟨q921, q924, q62⟩ q923 q27 ⟨rfl, by decide +kernel, by decide +kernel, by decide +kernel⟩ rfl (by rw [hM.2.1]; exact ⟨rfl, rfl⟩) rfl ⟨by omega, by decide⟩ ⟨by omega, by omega⟩ rfl (Nat.le_of_ble_eq_true rfl) (fun v1 h2 hq3 => ?_)
      obtain ⟨rfl, rfl⟩ := hq3
      dsimp only [Option.toList, List.cons_append, List.nil_append]
      refine aw_if_eq (pc' := 47) (tgt := 67) eX7_readAll_44 rfl (by decide) (fun c_44 => ?_) (fun c_44 => ?_)
      · have g41 : pAt (U.1 7) n c.1 59 = false := by (have z := c_44; (try simp only [zb_eq0, Bool.not_eq_false, Bool.not_eq_true, decide_eq_true_eq, decide_eq_false_iff_not, Decidable.not_not] at z); exact z)
        have e : pRl (U.1 7) n (U.1 9) (U.1 8) (U.1 10) (j + 1) c = c := by rw [pRl]; exact if_neg (by rw [g41]; decide)
        rw [e] at hQ
        exact hQ _ k hM Same.rf _
      · have g41 : pAt (U.1 7) n c.1 59 = true := by (have z := c_44; (try simp only [zb_eq0, Bool.not_eq_false, Bool.not_eq_true, decide_eq_true_eq, decide_eq_false_iff_not, Decidable.not_not] at z); exact z)
        have b9 := pAt_lt g41
        refine aw_aload_n (pc' := 48) eX7_readAll_47 rfl rfl trivial ?_
        refine aw_dup (pc' := 49) eX7_readAll_48 rfl rfl ?_
        refine aw_Mint (pc' := 52) (kf := 11) hM eX7_readAll_49 rfl (by decide) q800 ?_
        refine aw_iconst (pc' := 53) (v := 1) eX7_readAll_52 rfl (by decide) ?_
        refine aw_iadd (pc' := 54) eX7_readAll_53 rfl ?_
        refine aw_Mput (pc' := 57) 11 hM eX7_readAll_54 rfl (by decide) (fun z => absurd z (by decide)) q800 (fun h6 hM4 hs5 => ?_)
        have hMb := hM4
        rw [show msc (mp (wk (sr U c.2.1 c.2.2) k) c.1) 11 ((mp (wk (sr U c.2.1 c.2.2) k) c.1).2.1 11 + 1) = mp (wk (sr U c.2.1 c.2.2) k) (c.1.1 + 1, c.1.2) from mp_at _ c.1 (c.1.1 + 1) (nI_1 c.1.1)] at hMb
        refine aw_aload_n (pc' := 58) eX7_readAll_57 rfl rfl trivial ?_
        refine aw_callv (pc' := 61) (nn := 0) (c_X7_clause (d := d - 1) hn (k := k) (c := ((c.1.1 + 1, c.1.2), c.2)) (by show c.1.1 + 1 ≤ n; omega) hMb (by omega)) eX7_readAll_58 rfl ⟨q917, q920, q62⟩ q919 q26 ⟨rfl, by decide +kernel, by decide +kernel, by decide +kernel⟩ rfl (by rw [hMb.2.1]; exact ⟨rfl, rfl⟩) rfl ⟨by omega, by decide⟩ ⟨by omega, by omega⟩ rfl (Nat.le_of_ble_eq_true rfl) (fun v9 h10 hq11 => ?_)
        obtain ⟨rfl, k2, hM7, hs8⟩ := hq11
        have hT12 := hs5.tr hs8
        dsimp only [Option.toList, List.cons_append, List.nil_append]
        refine aw_iinc (pc' := 64) eX7_readAll_61 rfl rfl rfl (by decide) ?_
        dsimp only [zst, zst2, zcut]
        refine aw_goto eX7_readAll_64 (by decide) (tgt := 32) ?_
        have e : pRl (U.1 7) n (U.1 9) (U.1 8) (U.1 10) (j + 1) c = pRl (U.1 7) n (U.1 9) (U.1 8) (U.1 10) j (pCl (U.1 7) n (U.1 9) (U.1 8) (U.1 10) ((c.1.1 + 1, c.1.2), c.2)) := by rw [pRl]; exact if_pos g41
        rw [e] at hQ
        exact ih (pCl (U.1 7) n (U.1 9) (U.1 8) (U.1 10) ((c.1.1 + 1, c.1.2), c.2)) k2 _ (i + 1) _ (by omega) (nI_inc i) (pCl_le (by show c.1.1 + 1 ≤ n; omega)) hM7 (fun h' k' m s => hQ h' k' m ((hT12).tr s))
theorem c_X7_readAll (hM : MAt h u U) (hn : pOk U n) (hd : 19 ≤ d) : Ct l G mX7_readAll yX7_readAll d 0 0 [.ref u] h (fun r h' => r = some (.int (zb (pGood n (pRA (U.1 7) n (U.1 9) (U.1 8) (U.1 10))))) ∧ ∃ k', MAt h' u (mp (wk (sr U (pRA (U.1 7) n (U.1 9) (U.1 8) (U.1 10)).2.1 (pRA (U.1 7) n (U.1 9) (U.1 8) (U.1 10)).2.2) k') (pRA (U.1 7) n (U.1 9) (U.1 8) (U.1 10)).1) ∧ Same u 19 h h') := by
  refine ct_of (lv := [some (.ref u), none]) (by decide +kernel) rfl (fun z => by cases z) (fun _ => rfl) (fun _ => Nat.le_of_ble_eq_true rfl) ?_
  have n100 := hn.2
  refine aw_aload_n (pc' := 1) eX7_readAll_0 rfl rfl trivial ?_
  refine aw_iconst (pc' := 2) (v := 0) eX7_readAll_1 rfl (by decide) ?_
  refine aw_Mput (pc' := 5) 11 hM eX7_readAll_2 rfl (by decide) (fun z => absurd z (by decide)) q800 (fun h3 hM1 hs2 => ?_)
  refine aw_aload_n (pc' := 6) eX7_readAll_5 rfl rfl trivial ?_
  refine aw_iconst (pc' := 7) (v := 1) eX7_readAll_6 rfl (by decide) ?_
  refine aw_Mput (pc' := 10) 12 hM1 eX7_readAll_7 rfl (by decide) (fun _ => by decide) q801 (fun h6 hM4 hs5 => ?_)
  have hT7 := hs2.tr hs5
  refine aw_aload_n (pc' := 11) eX7_readAll_10 rfl rfl trivial ?_
  refine aw_aload_n (pc' := 12) eX7_readAll_11 rfl rfl trivial ?_
  refine aw_Mref (pc' := 15) (kf := 16) 8 hM4 eX7_readAll_12 rfl (by decide) rfl q805 ?_
  refine aw_iconst (pc' := 16) (v := 3) eX7_readAll_15 rfl (by decide) ?_
  refine aw_MaldC (pc' := 17) 8 3 hM4 eX7_readAll_16 rfl (by decide) (by unfold vp_in; decide) (by decide) ?_
  refine aw_Mput (pc' := 20) 14 hM4 eX7_readAll_17 rfl (by decide) (fun z => absurd z (by decide)) q803 (fun h10 hM8 hs9 => ?_)
  have hT11 := hT7.tr hs9
  refine aw_aload_n (pc' := 21) eX7_readAll_20 rfl rfl trivial ?_
  refine aw_bipush (pc' := 23) (v := 30) eX7_readAll_21 rfl (by decide) ?_
  refine aw_Mput (pc' := 26) 15 hM8 eX7_readAll_23 rfl (by decide) (fun z => absurd z (by decide)) q804 (fun h14 hM12 hs13 => ?_)
  have hT15 := hT11.tr hs13
  refine aw_iconst (pc' := 27) (v := 1) eX7_readAll_26 rfl (by decide) ?_
  refine aw_istore_n (pc' := 28) eX7_readAll_27 rfl (by decide) ?_
  dsimp only [zst, zst2, zcut]
  obtain ⟨k0, hk0⟩ := nI_all (U.2.1 13)
  have hMb := hM12
  rw [show (msc (msc U 11 0) 12 1).1 = U.1 from rfl] at hMb
  rw [start_eq hk0] at hMb
  refine aw_aload_n (pc' := 29) eX7_readAll_28 rfl rfl trivial ?_
  refine aw_callv (pc' := 32) (nn := 0) (c_X7_clause (d := d - 1) hn (k := k0) (c := ((0, true), U.1 8 3, 30)) (Nat.zero_le n) hMb (by omega)) eX7_readAll_29 rfl ⟨q917, q920, q62⟩ q919 q26 ⟨rfl, by decide +kernel, by decide +kernel, by decide +kernel⟩ rfl (by rw [hMb.2.1]; exact ⟨rfl, rfl⟩) rfl ⟨by omega, by decide⟩ ⟨by omega, by omega⟩ rfl (Nat.le_of_ble_eq_true rfl) (fun v18 h19 hq20 => ?_)
  obtain ⟨rfl, k2, hM16, hs17⟩ := hq20
  have hT21 := hT15.tr hs17
  dsimp only [Option.toList, List.cons_append, List.nil_append]
  refine lp_X7_readAll hn hd 9 _ k2 _ 1 1 (by omega) rfl (pCl_le (Nat.zero_le n)) hM16 (fun h' k' m s9 y' => ?_)
  have s0 := (hT21).tr s9
  clear s9
  refine aw_aload_n (pc' := 68) eX7_readAll_67 rfl rfl trivial ?_
  refine aw_Mint (pc' := 71) (kf := 12) m eX7_readAll_68 rfl (by decide) q801 ?_
  refine aw_if_eq (pc' := 74) (tgt := 89) eX7_readAll_71 rfl (by decide) (fun c_71 => ?_) (fun c_71 => ?_)
  · refine aw_iconst (pc' := 90) (v := 0) eX7_readAll_89 rfl (by decide) ?_
    refine aw_ret (v := some (.int _)) eX7_readAll_90 ⟨rfl, rfl⟩ (by omega) (by omega) rfl ?_
    have g71 : (pRA (U.1 7) n (U.1 9) (U.1 8) (U.1 10)).1.2 = false := by (have z := c_71; (try simp only [show ∀ (V : MS) (p : PP), (mp V p).2.1 12 = zb p.2 from fun _ _ => rfl, zb_eq0, Bool.not_eq_false, Bool.not_eq_true, decide_eq_true_eq, decide_eq_false_iff_not, Decidable.not_not] at z); exact z)
    exact ⟨by simp [pGood, zb, g71], k', m, s0⟩
  · refine aw_aload_n (pc' := 75) eX7_readAll_74 rfl rfl trivial ?_
    refine aw_Mint (pc' := 78) (kf := 11) m eX7_readAll_75 rfl (by decide) q800 ?_
    refine aw_aload_n (pc' := 79) eX7_readAll_78 rfl rfl trivial ?_
    refine aw_Mint (pc' := 82) (kf := 10) m eX7_readAll_79 rfl (by decide) q799 ?_
    refine aw_icmp_ne (pc' := 85) (tgt := 89) eX7_readAll_82 rfl (by decide) (fun c_82 => ?_) (fun c_82 => ?_)
    · refine aw_iconst (pc' := 90) (v := 0) eX7_readAll_89 rfl (by decide) ?_
      refine aw_ret (v := some (.int _)) eX7_readAll_90 ⟨rfl, rfl⟩ (by omega) (by omega) rfl ?_
      have g71 : (pRA (U.1 7) n (U.1 9) (U.1 8) (U.1 10)).1.2 = true := by (have z := c_71; (try simp only [show ∀ (V : MS) (p : PP), (mp V p).2.1 12 = zb p.2 from fun _ _ => rfl, zb_eq0, Bool.not_eq_false, Bool.not_eq_true, decide_eq_true_eq, decide_eq_false_iff_not, Decidable.not_not] at z); exact z)
      have g82 : ¬ (pRA (U.1 7) n (U.1 9) (U.1 8) (U.1 10)).1.1 = n := fun y => absurd (show nI (pRA (U.1 7) n (U.1 9) (U.1 8) (U.1 10)).1.1 = U.2.1 10 from (by rw [y]; exact hn.1.symm)) c_82
      exact ⟨by simp [pGood, zb, g71, g82], k', m, s0⟩
    · refine aw_iconst (pc' := 86) (v := 1) eX7_readAll_85 rfl (by decide) ?_
      refine aw_goto eX7_readAll_86 (by decide) (tgt := 90) ?_
      refine aw_ret (v := some (.int _)) eX7_readAll_90 ⟨rfl, rfl⟩ (by omega) (by omega) rfl ?_
      have g71 : (pRA (U.1 7) n (U.1 9) (U.1 8) (U.1 10)).1.2 = true := by (have z := c_71; (try simp only [show ∀ (V : MS) (p : PP), (mp V p).2.1 12 = zb p.2 from fun _ _ => rfl, zb_eq0, Bool.not_eq_false, Bool.not_eq_true, decide_eq_true_eq, decide_eq_false_iff_not, Decidable.not_not] at z); exact z)
      have g82 : (pRA (U.1 7) n (U.1 9) (U.1 8) (U.1 10)).1.1 = n := (nI_eq (by have := pRA_le (R := U.1 7) (n := n) (L := U.1 9) (N := U.1 8) (W := U.1 10); omega) (by omega)).mp ((show nI (pRA (U.1 7) n (U.1 9) (U.1 8) (U.1 10)).1.1 = U.2.1 10 from c_82).trans hn.1)
      exact ⟨by simp [pGood, zb, g71, g82], k', m, s0⟩
end M11
