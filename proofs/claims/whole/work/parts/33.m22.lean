/-! the model: fractions -/
section M22
variable {l : Launch} {G : GT} {u : Nat} {U U1 : MS} {d n m t : Nat} {g : Nat → Int32} {h : Hp} {Q : Option Value → Hp → Prop}
theorem absL {x : Int64} (h1 : -2 ^ 62 < x.toInt) (h2 : x.toInt < 2 ^ 62) : (if 0 < x then x else -x) = lN x.toInt.natAbs := by
  apply Int64.toInt_inj.mp
  rw [pk_lT (by omega)]
  have hz : (0 : Int64).toInt = 0 := by decide
  split
  · rename_i z
    rw [Int64.lt_iff_toInt_lt, hz] at z
    omega
  · rename_i z
    rw [Int64.lt_iff_toInt_lt, hz] at z
    rw [Int64.toInt_neg, Int.bmod_eq_of_le (by omega) (by omega)]
    omega
def sFrac (x : Int64) (b : Nat) (p : Int32) : Int64 := if p = 0 then x / lN (Nat.gcd x.toInt.natAbs b) else lN b / lN (Nat.gcd x.toInt.natAbs b)

abbrev mX7_fraction : MT := (RX7, cX7_fraction, 11, (some .long), false)
theorem eX7_fraction_0 : decode mX7_fraction.2.1 0 = .ok (.lload_n 0, 1) := by decide +kernel
theorem eX7_fraction_1 : decode mX7_fraction.2.1 1 = .ok (.invokestatic 224, 3) := by decide +kernel
theorem eX7_fraction_4 : decode mX7_fraction.2.1 4 = .ok (.lstore 5, 2) := by decide +kernel
theorem eX7_fraction_6 : decode mX7_fraction.2.1 6 = .ok (.lload_n 2, 1) := by decide +kernel
theorem eX7_fraction_7 : decode mX7_fraction.2.1 7 = .ok (.lstore 7, 2) := by decide +kernel
theorem eX7_fraction_9 : decode mX7_fraction.2.1 9 = .ok (.lload 7, 2) := by decide +kernel
theorem eX7_fraction_11 : decode mX7_fraction.2.1 11 = .ok (.lconst 0, 1) := by decide +kernel
theorem eX7_fraction_12 : decode mX7_fraction.2.1 12 = .ok (.lcmp, 1) := by decide +kernel
theorem eX7_fraction_13 : decode mX7_fraction.2.1 13 = .ok (.ifCond .eq 21, 3) := by decide +kernel
theorem eX7_fraction_16 : decode mX7_fraction.2.1 16 = .ok (.lload 5, 2) := by decide +kernel
theorem eX7_fraction_18 : decode mX7_fraction.2.1 18 = .ok (.lload 7, 2) := by decide +kernel
theorem eX7_fraction_20 : decode mX7_fraction.2.1 20 = .ok (.lrem, 1) := by decide +kernel
theorem eX7_fraction_21 : decode mX7_fraction.2.1 21 = .ok (.lstore 9, 2) := by decide +kernel
theorem eX7_fraction_23 : decode mX7_fraction.2.1 23 = .ok (.lload 7, 2) := by decide +kernel
theorem eX7_fraction_25 : decode mX7_fraction.2.1 25 = .ok (.lstore 5, 2) := by decide +kernel
theorem eX7_fraction_27 : decode mX7_fraction.2.1 27 = .ok (.lload 9, 2) := by decide +kernel
theorem eX7_fraction_29 : decode mX7_fraction.2.1 29 = .ok (.lstore 7, 2) := by decide +kernel
theorem eX7_fraction_31 : decode mX7_fraction.2.1 31 = .ok (.goto (-22), 3) := by decide +kernel
theorem eX7_fraction_34 : decode mX7_fraction.2.1 34 = .ok (.iload 4, 2) := by decide +kernel
theorem eX7_fraction_36 : decode mX7_fraction.2.1 36 = .ok (.ifCond .ne 10, 3) := by decide +kernel
theorem eX7_fraction_39 : decode mX7_fraction.2.1 39 = .ok (.lload_n 0, 1) := by decide +kernel
theorem eX7_fraction_40 : decode mX7_fraction.2.1 40 = .ok (.lload 5, 2) := by decide +kernel
theorem eX7_fraction_42 : decode mX7_fraction.2.1 42 = .ok (.ldiv, 1) := by decide +kernel
theorem eX7_fraction_43 : decode mX7_fraction.2.1 43 = .ok (.goto 7, 3) := by decide +kernel
theorem eX7_fraction_46 : decode mX7_fraction.2.1 46 = .ok (.lload_n 2, 1) := by decide +kernel
theorem eX7_fraction_47 : decode mX7_fraction.2.1 47 = .ok (.lload 5, 2) := by decide +kernel
theorem eX7_fraction_49 : decode mX7_fraction.2.1 49 = .ok (.ldiv, 1) := by decide +kernel
theorem eX7_fraction_50 : decode mX7_fraction.2.1 50 = .ok (.lreturn, 1) := by decide +kernel
theorem lp_X7_fraction {x : Int64} {b : Nat} (hb0 : 0 < b) {p : Int32} : ∀ (B A : Nat) (o9 o10 : Option Value), A < 2 ^ 63 ∧ B < 2 ^ 63 → Nat.gcd A B = Nat.gcd x.toInt.natAbs b → AW l G mX7_fraction d 0 0 (fun r h' => r = some (.long (sFrac x b p)) ∧ h' = h) 0 0 h [some (.long x), none, some (.long (lN b)), none, some (.int p), some (.long (lN A)), none, some (.long (lN B)), none, o9, o10] [] 9 := by
  intro B
  induction B using Nat.strongRecOn with
  | _ B ih =>
    intro A o9 o10 hAB hg
    refine aw_lload (pc' := 11) eX7_fraction_9 rfl rfl ?_
    refine aw_lconst (pc' := 12) (v := 0) eX7_fraction_11 rfl (by decide) ?_
    refine aw_lcmp (pc' := 13) eX7_fraction_12 rfl ?_
    refine aw_if_eq (pc' := 16) (tgt := 34) eX7_fraction_13 rfl (by decide) (fun c_13 => ?_) (fun c_13 => ?_)
    · have e0 : B = 0 := by
        have z := (lg_cmp_eq _ _).mp (by first | exact c_13 | exact Decidable.not_not.mp c_13)
        exact (pk_lEQ (b := 0) (by omega) (by omega)).mp z
      subst e0
      rw [Nat.gcd_zero_right] at hg
      have hA : ¬ lN A = 0 := fun z => by
        have y := (pk_lEQ (b := 0) (by omega) (by omega)).mp z
        rw [y] at hg
        exact absurd hg.symm (Nat.ne_of_gt (Nat.gcd_pos_of_pos_right _ hb0))
      refine aw_iload (pc' := 36) eX7_fraction_34 rfl rfl ?_
      refine aw_if_ne (pc' := 39) (tgt := 46) eX7_fraction_36 rfl (by decide) (fun c_36 => ?_) (fun c_36 => ?_)
      · refine aw_lload_n (pc' := 47) eX7_fraction_46 rfl rfl ?_
        refine aw_lload (pc' := 49) eX7_fraction_47 rfl rfl ?_
        refine aw_ldiv (pc' := 50) eX7_fraction_49 rfl hA ?_
        refine aw_ret (v := some (.long _)) eX7_fraction_50 ⟨rfl, rfl⟩ (by omega) (by omega) rfl ?_
        refine ⟨?_, rfl⟩
        rw [sFrac, ← hg]
        exact congrArg (fun v => some (Value.long v)) (if_neg c_36).symm
      · refine aw_lload_n (pc' := 40) eX7_fraction_39 rfl rfl ?_
        refine aw_lload (pc' := 42) eX7_fraction_40 rfl rfl ?_
        refine aw_ldiv (pc' := 43) eX7_fraction_42 rfl hA ?_
        refine aw_goto eX7_fraction_43 (by decide) (tgt := 50) ?_
        refine aw_ret (v := some (.long _)) eX7_fraction_50 ⟨rfl, rfl⟩ (by omega) (by omega) rfl ?_
        refine ⟨?_, rfl⟩
        rw [sFrac, ← hg]
        exact congrArg (fun v => some (Value.long v)) (if_pos (by first | exact c_36 | exact Decidable.not_not.mp c_36)).symm
    · have hBz : ¬ lN B = 0 := fun z => c_13 ((lg_cmp_eq _ _).mpr z)
      refine aw_lload (pc' := 18) eX7_fraction_16 rfl rfl ?_
      refine aw_lload (pc' := 20) eX7_fraction_18 rfl rfl ?_
      refine aw_lrem (pc' := 21) eX7_fraction_20 rfl hBz ?_
      refine aw_lstore (pc' := 23) eX7_fraction_21 rfl (by decide) ?_
      dsimp only [zst, zst2, zcut]
      refine aw_lload (pc' := 25) eX7_fraction_23 rfl rfl ?_
      refine aw_lstore (pc' := 27) eX7_fraction_25 rfl (by decide) ?_
      dsimp only [zst, zst2, zcut]
      refine aw_lload (pc' := 29) eX7_fraction_27 rfl rfl ?_
      refine aw_lstore (pc' := 31) eX7_fraction_29 rfl (by decide) ?_
      dsimp only [zst, zst2, zcut]
      refine aw_goto eX7_fraction_31 (by decide) (tgt := 9) ?_
      have hB : 0 < B := Nat.pos_of_ne_zero fun z => c_13 (by rw [z]; decide)
      rw [pk_lRem (by omega) hB (by omega)]
      have hlt : A % B < B := Nat.mod_lt _ hB
      refine ih (A % B) hlt B _ _ (by omega) ?_
      rw [← hg, Nat.gcd_comm A B, Nat.gcd_rec B A, Nat.gcd_comm]
theorem c_X7_fraction {x : Int64} (hx : -2 ^ 62 < x.toInt ∧ x.toInt < 2 ^ 62) {b : Nat} (hb0 : 0 < b) (hb : b < 2 ^ 31) (p : Int32) (hd : 1 ≤ d) : Ct l G mX7_fraction yX7_fraction d 0 0 [.long x, .long (lN b), .int p] h (fun r h' => r = some (.long (sFrac x b p)) ∧ h' = h) := by
  refine ct_of (lv := [some (.long x), none, some (.long (lN b)), none, some (.int p), none, none, none, none, none, none]) (by decide +kernel) rfl (fun z => by cases z) (fun _ => rfl) (fun _ => Nat.le_of_ble_eq_true rfl) ?_
  refine aw_lload_n (pc' := 1) eX7_fraction_0 rfl rfl ?_
  refine aw_mabs (pc' := 4) eX7_fraction_1 rfl q1091 q1092 q63 q1093 (by omega) ⟨by omega, by omega⟩ (Nat.le_of_ble_eq_true rfl) ?_
  refine aw_lstore (pc' := 6) eX7_fraction_4 rfl (by decide) ?_
  dsimp only [zst, zst2, zcut]
  refine aw_lload_n (pc' := 7) eX7_fraction_6 rfl rfl ?_
  refine aw_lstore (pc' := 9) eX7_fraction_7 rfl (by decide) ?_
  dsimp only [zst, zst2, zcut]
  rw [absL hx.1 hx.2]
  exact lp_X7_fraction hb0 b x.toInt.natAbs _ _ (by omega) rfl
def sOdd (F : FT) (g : Nat → Int32) (m t x i : Nat) : Nat → Int32
  | 0 => 0
  | p + 1 => sOdd F g m t x i p + (if sDys F m x t (upd g 62 (nI p)) (10 * i + 3) = 4 then 1 else 0)
def sOdds (F : FT) (g : Nat → Int32) (m t : Nat) (tl x p : Int32) : Int64 := if bIn tl 0 (nI m - 1) = true ∧ bIn x 0 20 = true ∧ bIn p 0 1 = true then sFrac (sOdd F g m t x.toNatClampNeg tl.toNatClampNeg 12).toInt64 12 p else -9223372036854775808
theorem sOn_st {F : FT} {m t x i : Nat} {g : Nat → Int32} (hm : m ≤ 6) (hi : i < m) (hx : x ≤ 60) : sOn F g m t (nI x) (10 + nI i) = sDys F m x t g (10 * i + 3) := by
  have e : (10 : Int32) + nI i = nI (i + 10) := (nI_add 10 i).trans (by rw [Nat.add_comm])
  have e2 : nI (i + 10) - 10 = nI i := nI_subn (b := 10)
  rw [sOn, if_pos (Or.inr (Or.inl (by rw [e, e2]; exact (bIn_one hm).mpr ⟨i, hi, rfl⟩))), if_pos (show bIn (nI x) 0 60 = true from (bIn_lit (N := 60) (by omega)).mpr ⟨x, hx, rfl⟩), sOnV, e, e2, nI_clamp (by omega), nI_clamp (by omega)]
  rw [if_neg (show ¬ nI (i + 10) = 0 from fun z => absurd ((nI_eq (b := 0) (by omega) (by omega)).mp z) (by omega)), if_pos (show nI (i + 10) < 20 from (nI_ltI (b := 20) (by omega) (by omega)).mpr (by omega))]
theorem sOdd_nat {F : FT} {g : Nat → Int32} {m t x i : Nat} : ∀ p, ∃ c, c ≤ p ∧ sOdd F g m t x i p = nI c
  | 0 => ⟨0, Nat.le_refl _, rfl⟩
  | p + 1 => by
    obtain ⟨c, hc, e⟩ := sOdd_nat (F := F) (g := g) (m := m) (t := t) (x := x) (i := i) p
    rw [sOdd, e]
    split
    · exact ⟨c + 1, by omega, nI_1 c⟩
    · exact ⟨c, by omega, Int32.add_zero _⟩
abbrev mX7_odds : MT := (RX7, cX7_odds, 7, (some .long), false)
theorem eX7_odds_0 : decode mX7_odds.2.1 0 = .ok (.aload_n 0, 1) := by decide +kernel
theorem eX7_odds_1 : decode mX7_odds.2.1 1 = .ok (.iload_n 1, 1) := by decide +kernel
theorem eX7_odds_2 : decode mX7_odds.2.1 2 = .ok (.invokevirtual 88, 3) := by decide +kernel
theorem eX7_odds_5 : decode mX7_odds.2.1 5 = .ok (.ifCond .eq 22, 3) := by decide +kernel
theorem eX7_odds_8 : decode mX7_odds.2.1 8 = .ok (.iload_n 2, 1) := by decide +kernel
theorem eX7_odds_9 : decode mX7_odds.2.1 9 = .ok (.iconst 0, 1) := by decide +kernel
theorem eX7_odds_10 : decode mX7_odds.2.1 10 = .ok (.bipush 20, 2) := by decide +kernel
theorem eX7_odds_12 : decode mX7_odds.2.1 12 = .ok (.invokestatic 80, 3) := by decide +kernel
theorem eX7_odds_15 : decode mX7_odds.2.1 15 = .ok (.ifCond .eq 12, 3) := by decide +kernel
theorem eX7_odds_18 : decode mX7_odds.2.1 18 = .ok (.iload_n 3, 1) := by decide +kernel
theorem eX7_odds_19 : decode mX7_odds.2.1 19 = .ok (.iconst 0, 1) := by decide +kernel
theorem eX7_odds_20 : decode mX7_odds.2.1 20 = .ok (.iconst 1, 1) := by decide +kernel
theorem eX7_odds_21 : decode mX7_odds.2.1 21 = .ok (.invokestatic 80, 3) := by decide +kernel
theorem eX7_odds_24 : decode mX7_odds.2.1 24 = .ok (.ifCond .ne 7, 3) := by decide +kernel
theorem eX7_odds_27 : decode mX7_odds.2.1 27 = .ok (.ldc2_w 228, 3) := by decide +kernel
theorem eX7_odds_30 : decode mX7_odds.2.1 30 = .ok (.lreturn, 1) := by decide +kernel
theorem eX7_odds_31 : decode mX7_odds.2.1 31 = .ok (.aload_n 0, 1) := by decide +kernel
theorem eX7_odds_32 : decode mX7_odds.2.1 32 = .ok (.getfield 15, 3) := by decide +kernel
theorem eX7_odds_35 : decode mX7_odds.2.1 35 = .ok (.bipush 62, 2) := by decide +kernel
theorem eX7_odds_37 : decode mX7_odds.2.1 37 = .ok (.iaload, 1) := by decide +kernel
theorem eX7_odds_38 : decode mX7_odds.2.1 38 = .ok (.istore 4, 2) := by decide +kernel
theorem eX7_odds_40 : decode mX7_odds.2.1 40 = .ok (.iconst 0, 1) := by decide +kernel
theorem eX7_odds_41 : decode mX7_odds.2.1 41 = .ok (.istore 5, 2) := by decide +kernel
theorem eX7_odds_43 : decode mX7_odds.2.1 43 = .ok (.iconst 0, 1) := by decide +kernel
theorem eX7_odds_44 : decode mX7_odds.2.1 44 = .ok (.istore 6, 2) := by decide +kernel
theorem eX7_odds_46 : decode mX7_odds.2.1 46 = .ok (.iload 6, 2) := by decide +kernel
theorem eX7_odds_48 : decode mX7_odds.2.1 48 = .ok (.bipush 12, 2) := by decide +kernel
theorem eX7_odds_50 : decode mX7_odds.2.1 50 = .ok (.if_icmp .ge 41, 3) := by decide +kernel
theorem eX7_odds_53 : decode mX7_odds.2.1 53 = .ok (.aload_n 0, 1) := by decide +kernel
theorem eX7_odds_54 : decode mX7_odds.2.1 54 = .ok (.getfield 15, 3) := by decide +kernel
theorem eX7_odds_57 : decode mX7_odds.2.1 57 = .ok (.bipush 62, 2) := by decide +kernel
theorem eX7_odds_59 : decode mX7_odds.2.1 59 = .ok (.iload 6, 2) := by decide +kernel
theorem eX7_odds_61 : decode mX7_odds.2.1 61 = .ok (.iastore, 1) := by decide +kernel
theorem eX7_odds_62 : decode mX7_odds.2.1 62 = .ok (.iload 5, 2) := by decide +kernel
theorem eX7_odds_64 : decode mX7_odds.2.1 64 = .ok (.aload_n 0, 1) := by decide +kernel
theorem eX7_odds_65 : decode mX7_odds.2.1 65 = .ok (.iload_n 2, 1) := by decide +kernel
theorem eX7_odds_66 : decode mX7_odds.2.1 66 = .ok (.bipush 10, 2) := by decide +kernel
theorem eX7_odds_68 : decode mX7_odds.2.1 68 = .ok (.iload_n 1, 1) := by decide +kernel
theorem eX7_odds_69 : decode mX7_odds.2.1 69 = .ok (.iadd, 1) := by decide +kernel
theorem eX7_odds_70 : decode mX7_odds.2.1 70 = .ok (.invokevirtual 212, 3) := by decide +kernel
theorem eX7_odds_73 : decode mX7_odds.2.1 73 = .ok (.iconst 4, 1) := by decide +kernel
theorem eX7_odds_74 : decode mX7_odds.2.1 74 = .ok (.if_icmp .ne 7, 3) := by decide +kernel
theorem eX7_odds_77 : decode mX7_odds.2.1 77 = .ok (.iconst 1, 1) := by decide +kernel
theorem eX7_odds_78 : decode mX7_odds.2.1 78 = .ok (.goto 4, 3) := by decide +kernel
theorem eX7_odds_81 : decode mX7_odds.2.1 81 = .ok (.iconst 0, 1) := by decide +kernel
theorem eX7_odds_82 : decode mX7_odds.2.1 82 = .ok (.iadd, 1) := by decide +kernel
theorem eX7_odds_83 : decode mX7_odds.2.1 83 = .ok (.istore 5, 2) := by decide +kernel
theorem eX7_odds_85 : decode mX7_odds.2.1 85 = .ok (.iinc 6 1, 3) := by decide +kernel
theorem eX7_odds_88 : decode mX7_odds.2.1 88 = .ok (.goto (-42), 3) := by decide +kernel
theorem eX7_odds_91 : decode mX7_odds.2.1 91 = .ok (.aload_n 0, 1) := by decide +kernel
theorem eX7_odds_92 : decode mX7_odds.2.1 92 = .ok (.getfield 15, 3) := by decide +kernel
theorem eX7_odds_95 : decode mX7_odds.2.1 95 = .ok (.bipush 62, 2) := by decide +kernel
theorem eX7_odds_97 : decode mX7_odds.2.1 97 = .ok (.iload 4, 2) := by decide +kernel
theorem eX7_odds_99 : decode mX7_odds.2.1 99 = .ok (.iastore, 1) := by decide +kernel
theorem eX7_odds_100 : decode mX7_odds.2.1 100 = .ok (.iload 5, 2) := by decide +kernel
theorem eX7_odds_102 : decode mX7_odds.2.1 102 = .ok (.i2l, 1) := by decide +kernel
theorem eX7_odds_103 : decode mX7_odds.2.1 103 = .ok (.ldc2_w 230, 3) := by decide +kernel
theorem eX7_odds_106 : decode mX7_odds.2.1 106 = .ok (.iload_n 3, 1) := by decide +kernel
theorem eX7_odds_107 : decode mX7_odds.2.1 107 = .ok (.invokestatic 232, 3) := by decide +kernel
theorem eX7_odds_110 : decode mX7_odds.2.1 110 = .ok (.lreturn, 1) := by decide +kernel
theorem lp_X7_odds (hz : mZ U) (hg : gOk g m t) (hm6 : m ≤ 6) (hn : 1 ≤ n) {x i : Nat} (hx : x ≤ 60) (hi : i < m) {o3 : Option Value} {wa : Int32} (ht6 : t ≤ 1000000000) (hd : 27 ≤ d) {h0 : Hp} (hQ : ∀ h' U' g' y', MAt h' u U' → MK n g' U U' → Same u 19 h0 h' → (∀ y, upd g' 62 y = upd g 62 y) → AW l G mX7_odds d 0 0 Q 0 0 h' [some (.ref u), some (.int (nI i)), some (.int (nI x)), o3, some (.int wa), some (.int (sOdd (mRd U) g m t x i 12)), some (.int y')] [] 91) : ∀ (j p : Nat) (y b : Int32) (h : Hp) (g' : Nat → Int32) (U1 : MS), j = 12 - p → p ≤ 12 → y = nI p → b = (sOdd (mRd U) g m t x i p) → MK n g' U U1 → (∀ y, upd g' 62 y = upd g 62 y) → MAt h u U1 → Same u 19 h0 h → AW l G mX7_odds d 0 0 Q 0 0 h [some (.ref u), some (.int (nI i)), some (.int (nI x)), o3, some (.int wa), some (.int b), some (.int y)] [] 46 := by
  intro j
  induction j using Nat.strongRecOn with
  | _ j ih =>
    intro p y b h g' U1 hj hp hy hb hk hgs hM hs
    subst hy hb
    refine aw_iload (pc' := 48) eX7_odds_46 rfl rfl ?_
    refine aw_bipush (pc' := 50) (v := 12) eX7_odds_48 rfl (by decide) ?_
    refine aw_icmp_ge (pc' := 53) (tgt := 91) eX7_odds_50 rfl (by decide) (fun c_50 => ?_) (fun c_50 => ?_)
    · have c9 := ge_nI (b := 12) (by omega) (by omega) c_50
      obtain rfl : p = 12 := by omega
      exact hQ _ _ _ _ hM hk hs hgs
    · have c9 := nge_nI (b := 12) (by omega) (by omega) c_50
      refine aw_aload_n (pc' := 54) eX7_odds_53 rfl rfl trivial ?_
      refine aw_Mref (pc' := 57) (kf := 0) 1 hM eX7_odds_54 rfl (by decide) rfl q789 ?_
      refine aw_bipush (pc' := 59) (v := 62) eX7_odds_57 rfl (by decide) ?_
      refine aw_iload (pc' := 61) eX7_odds_59 rfl rfl ?_
      refine aw_MastC (pc' := 62) 1 62 hM eX7_odds_61 rfl (by decide) (by unfold vp_in; decide) (by decide) (fun h3 hM1 hs2 => ?_)
      have kc : MK n (upd g 62 (nI p)) U (mup U1 1 62 (nI p)) := by rw [← hgs]; exact hk.up
      refine aw_iload (pc' := 64) eX7_odds_62 rfl rfl ?_
      refine aw_aload_n (pc' := 65) eX7_odds_64 rfl rfl trivial ?_
      refine aw_iload_n (pc' := 66) eX7_odds_65 rfl rfl ?_
      refine aw_bipush (pc' := 68) (v := 10) eX7_odds_66 rfl (by decide) ?_
      refine aw_iload_n (pc' := 69) eX7_odds_68 rfl rfl ?_
      refine aw_iadd (pc' := 70) eX7_odds_69 rfl ?_
      refine aw_callv (pc' := 73) (nn := 2) (c_X7_on (d := d - 1) kc hM1 hz (u62_ok hg) (n := n) (by omega) (by omega) (nI x) (10 + nI i) (by omega)) eX7_odds_70 rfl ⟨q1060, q1055, q62⟩ q1053 q1054 ⟨rfl, by decide +kernel, by decide +kernel, by decide +kernel⟩ rfl (by rw [hM1.2.1]; exact ⟨rfl, rfl⟩) rfl ⟨by omega, by decide⟩ ⟨by omega, by omega⟩ rfl (Nat.le_of_ble_eq_true rfl) (fun v8 h9 hq10 => ?_)
      obtain ⟨rfl, V6, hM4, k7, hs5⟩ := hq10
      have hT11 := hs2.tr hs5
      dsimp only [Option.toList, List.cons_append, List.nil_append]
      refine aw_iconst (pc' := 74) (v := 4) eX7_odds_73 rfl (by decide) ?_
      refine aw_icmp_ne (pc' := 77) (tgt := 81) eX7_odds_74 rfl (by decide) (fun c_74 => ?_) (fun c_74 => ?_)
      · refine aw_iconst (pc' := 82) (v := 0) eX7_odds_81 rfl (by decide) ?_
        refine aw_iadd (pc' := 83) eX7_odds_82 rfl ?_
        refine aw_istore (pc' := 85) eX7_odds_83 rfl (by decide) ?_
        dsimp only [zst, zst2, zcut]
        refine aw_iinc (pc' := 88) eX7_odds_85 rfl rfl rfl (by decide) ?_
        dsimp only [zst, zst2, zcut]
        refine aw_goto eX7_odds_88 (by decide) (tgt := 46) ?_
        exact ih (12 - (p + 1)) (by omega) (p + 1) _ _ _ _ _ rfl (by omega) (nI_inc p) (by rw [sOdd]; exact congrArg _ (if_neg (by rw [sOn_st hm6 hi (by omega)] at c_74; exact c_74)).symm) k7 (fun y => upd_upd g 62 _ y) hM4 (hs.tr hT11)
      · refine aw_iconst (pc' := 78) (v := 1) eX7_odds_77 rfl (by decide) ?_
        refine aw_goto eX7_odds_78 (by decide) (tgt := 82) ?_
        refine aw_iadd (pc' := 83) eX7_odds_82 rfl ?_
        refine aw_istore (pc' := 85) eX7_odds_83 rfl (by decide) ?_
        dsimp only [zst, zst2, zcut]
        refine aw_iinc (pc' := 88) eX7_odds_85 rfl rfl rfl (by decide) ?_
        dsimp only [zst, zst2, zcut]
        refine aw_goto eX7_odds_88 (by decide) (tgt := 46) ?_
        exact ih (12 - (p + 1)) (by omega) (p + 1) _ _ _ _ _ rfl (by omega) (nI_inc p) (by rw [sOdd]; exact congrArg _ (if_pos (by rw [sOn_st hm6 hi (by omega)] at c_74; first | exact c_74 | exact Decidable.not_not.mp c_74)).symm) k7 (fun y => upd_upd g 62 _ y) hM4 (hs.tr hT11)
theorem c_X7_odds (hk : MK n g U U1) (hM : MAt h u U1) (hz : mZ U) (hg : gOk g m t) (hn : 1 ≤ n) (ht6 : t ≤ 1000000000) (tl x p : Int32) (hd : 28 ≤ d) : Ct l G mX7_odds yX7_odds d 0 0 [.ref u, .int tl, .int x, .int p] h (fun r h' => r = some (.long (sOdds (mRd U) g m t tl x p)) ∧ ∃ U', MAt h' u U' ∧ MK n g U U' ∧ Same u 19 h h') := by
  refine ct_of (lv := [some (.ref u), some (.int tl), some (.int x), some (.int p), none, none, none]) (by decide +kernel) rfl (fun z => by cases z) (fun _ => rfl) (fun _ => Nat.le_of_ble_eq_true rfl) ?_
  have hgg := hg
  obtain ⟨hm, hm6, ht, ht2, hgq⟩ := hgg
  refine aw_aload_n (pc' := 1) eX7_odds_0 rfl rfl trivial ?_
  refine aw_iload_n (pc' := 2) eX7_odds_1 rfl rfl ?_
  refine aw_callv (pc' := 5) (nn := 1) (c_X7_isOne (d := d - 1) hM _ (by omega)) eX7_odds_2 rfl ⟨q897, q900, q62⟩ q899 q21 ⟨rfl, by decide +kernel, by decide +kernel, by decide +kernel⟩ rfl (by rw [hM.2.1]; exact ⟨rfl, rfl⟩) rfl ⟨by omega, by decide⟩ ⟨by omega, by omega⟩ rfl (Nat.le_of_ble_eq_true rfl) (fun v1 h2 hq3 => ?_)
  obtain ⟨rfl, rfl⟩ := hq3
  dsimp only [Option.toList, List.cons_append, List.nil_append]
  refine aw_if_eq (pc' := 8) (tgt := 27) eX7_odds_5 rfl (by decide) (fun c_5 => ?_) (fun c_5 => ?_)
  · refine aw_ldc2 (pc' := 30) eX7_odds_27 rfl q1086 ?_
    refine aw_ret (v := some (.long _)) eX7_odds_30 ⟨rfl, rfl⟩ (by omega) (by omega) rfl ?_
    simp only [zb_eq0, Bool.not_eq_false, Bool.not_eq_true, decide_eq_true_eq, decide_eq_false_iff_not, Decidable.not_not, hk.1, hm] at c_5
    exact ⟨by rw [sOdds, if_neg (by rw [c_5]; simp)], _, hM, hk, Same.rf⟩
  · simp only [zb_eq0, Bool.not_eq_false, Bool.not_eq_true, decide_eq_true_eq, decide_eq_false_iff_not, Decidable.not_not, hk.1, hm] at c_5
    have c9 := c_5
    obtain ⟨i, hi, rfl⟩ := (bIn_one hm6).mp c_5
    have cli : (nI i).toNatClampNeg = i := nI_clamp (by omega)
    refine aw_iload_n (pc' := 9) eX7_odds_8 rfl rfl ?_
    refine aw_iconst (pc' := 10) (v := 0) eX7_odds_9 rfl (by decide) ?_
    refine aw_bipush (pc' := 12) (v := 20) eX7_odds_10 rfl (by decide) ?_
    refine aw_calls (pc' := 15) (nn := 3) (c_X7_isIn (d := d - 1) _ _ _ (by omega)) eX7_odds_12 rfl ⟨q890, q892, q62⟩ q891 ⟨by decide +kernel, by decide +kernel, by decide +kernel⟩ rfl ⟨by omega, by decide⟩ ⟨by omega, by omega⟩ rfl (Nat.le_of_ble_eq_true rfl) (fun v4 h5 hq6 => ?_)
    obtain ⟨rfl, rfl⟩ := hq6
    dsimp only [Option.toList, List.cons_append, List.nil_append]
    refine aw_if_eq (pc' := 18) (tgt := 27) eX7_odds_15 rfl (by decide) (fun c_15 => ?_) (fun c_15 => ?_)
    · refine aw_ldc2 (pc' := 30) eX7_odds_27 rfl q1086 ?_
      refine aw_ret (v := some (.long _)) eX7_odds_30 ⟨rfl, rfl⟩ (by omega) (by omega) rfl ?_
      simp only [zb_eq0, Bool.not_eq_false, Bool.not_eq_true, decide_eq_true_eq, decide_eq_false_iff_not, Decidable.not_not] at c_15
      exact ⟨by rw [sOdds, if_neg (by rw [c_15]; simp)], _, hM, hk, Same.rf⟩
    · simp only [zb_eq0, Bool.not_eq_false, Bool.not_eq_true, decide_eq_true_eq, decide_eq_false_iff_not, Decidable.not_not] at c_15
      have c15 := c_15
      obtain ⟨x, hx, rfl⟩ := (bIn_lit (N := 20) (by omega)).mp c15
      have clx : (nI x).toNatClampNeg = x := nI_clamp (by omega)
      refine aw_iload_n (pc' := 19) eX7_odds_18 rfl rfl ?_
      refine aw_iconst (pc' := 20) (v := 0) eX7_odds_19 rfl (by decide) ?_
      refine aw_iconst (pc' := 21) (v := 1) eX7_odds_20 rfl (by decide) ?_
      refine aw_calls (pc' := 24) (nn := 3) (c_X7_isIn (d := d - 1) _ _ _ (by omega)) eX7_odds_21 rfl ⟨q890, q892, q62⟩ q891 ⟨by decide +kernel, by decide +kernel, by decide +kernel⟩ rfl ⟨by omega, by decide⟩ ⟨by omega, by omega⟩ rfl (Nat.le_of_ble_eq_true rfl) (fun v7 h8 hq9 => ?_)
      obtain ⟨rfl, rfl⟩ := hq9
      dsimp only [Option.toList, List.cons_append, List.nil_append]
      refine aw_if_ne (pc' := 27) (tgt := 31) eX7_odds_24 rfl (by decide) (fun c_24 => ?_) (fun c_24 => ?_)
      · simp only [zb_eq0, Bool.not_eq_false, Bool.not_eq_true, decide_eq_true_eq, decide_eq_false_iff_not, Decidable.not_not] at c_24
        refine aw_aload_n (pc' := 32) eX7_odds_31 rfl rfl trivial ?_
        refine aw_Mref (pc' := 35) (kf := 0) 1 hM eX7_odds_32 rfl (by decide) rfl q789 ?_
        refine aw_bipush (pc' := 37) (v := 62) eX7_odds_35 rfl (by decide) ?_
        refine aw_MaldC (pc' := 38) 1 62 hM eX7_odds_37 rfl (by decide) (by unfold vp_in; decide) (by decide) ?_
        refine aw_istore (pc' := 40) eX7_odds_38 rfl (by decide) ?_
        dsimp only [zst, zst2, zcut]
        refine aw_iconst (pc' := 41) (v := 0) eX7_odds_40 rfl (by decide) ?_
        refine aw_istore (pc' := 43) eX7_odds_41 rfl (by decide) ?_
        dsimp only [zst, zst2, zcut]
        refine aw_iconst (pc' := 44) (v := 0) eX7_odds_43 rfl (by decide) ?_
        refine aw_istore (pc' := 46) eX7_odds_44 rfl (by decide) ?_
        dsimp only [zst, zst2, zcut]
        refine lp_X7_odds (n := n) (U := U) (g := g) hz hg hm6 hn (x := x) (i := i) (by omega) hi ht6 (by omega) (fun h9 V9 g9 y9 m9 k9 s9 hg9 => ?_) 12 0 _ _ _ _ _ (by omega) (by omega) rfl rfl hk (fun _ => rfl) hM Same.rf
        refine aw_aload_n (pc' := 92) eX7_odds_91 rfl rfl trivial ?_
        refine aw_Mref (pc' := 95) (kf := 0) 1 m9 eX7_odds_92 rfl (by decide) rfl q789 ?_
        refine aw_bipush (pc' := 97) (v := 62) eX7_odds_95 rfl (by decide) ?_
        refine aw_iload (pc' := 99) eX7_odds_97 rfl rfl ?_
        refine aw_MastC (pc' := 100) 1 62 m9 eX7_odds_99 rfl (by decide) (by unfold vp_in; decide) (by decide) (fun h3 hM1 hs2 => ?_)
        have hT4 := s9.tr hs2
        have kz : MK n g U (mup V9 1 62 (U1.1 1 62)) := by
          have z := k9.up (k := 62) (x := U1.1 1 62)
          rw [hg9, hk.1, mg_id'] at z
          rw [hk.1]
          exact z
        obtain ⟨oc, hoc, eoc⟩ := sOdd_nat (F := mRd U) (g := g) (m := m) (t := t) (x := x) (i := i) 12
        have hxx : -2 ^ 62 < (sOdd (mRd U) g m t x i 12).toInt64.toInt ∧ (sOdd (mRd U) g m t x i 12).toInt64.toInt < 2 ^ 62 := by rw [eoc, nI_l (by omega), lN_toInt (by omega)]; omega
        refine aw_iload (pc' := 102) eX7_odds_100 rfl rfl ?_
        refine aw_i2l (pc' := 103) eX7_odds_102 rfl ?_
        refine aw_ldc2 (pc' := 106) eX7_odds_103 rfl q1087 ?_
        refine aw_iload_n (pc' := 107) eX7_odds_106 rfl rfl ?_
        refine aw_calls (pc' := 110) (nn := 3) (c_X7_fraction (d := d - 1) hxx (b := 12) (by omega) (by omega) _ (by omega)) eX7_odds_107 rfl ⟨q1088, q1090, q62⟩ q1089 ⟨by decide +kernel, by decide +kernel, by decide +kernel⟩ rfl ⟨by omega, by decide⟩ ⟨by omega, by omega⟩ rfl (Nat.le_of_ble_eq_true rfl) (fun v5 h6 hq7 => ?_)
        obtain ⟨rfl, rfl⟩ := hq7
        dsimp only [Option.toList, List.cons_append, List.nil_append]
        refine aw_ret (v := some (.long _)) eX7_odds_110 ⟨rfl, rfl⟩ (by omega) (by omega) rfl ?_
        exact ⟨by rw [sOdds, if_pos ⟨c9, c15, c_24⟩, cli, clx], _, hM1, kz, hT4⟩
      · refine aw_ldc2 (pc' := 30) eX7_odds_27 rfl q1086 ?_
        refine aw_ret (v := some (.long _)) eX7_odds_30 ⟨rfl, rfl⟩ (by omega) (by omega) rfl ?_
        simp only [zb_eq0, Bool.not_eq_false, Bool.not_eq_true, decide_eq_true_eq, decide_eq_false_iff_not, Decidable.not_not] at c_24
        exact ⟨by rw [sOdds, if_neg (by rw [c_24]; simp)], _, hM, hk, Same.rf⟩
def sMean (F : FT) (g : Nat → Int32) (m t : Nat) (p : Int32) : Int64 := if bIn p 0 1 = true ∧ 0 < sCnt g 1 m then sFrac (sLoads F g m t m).toInt64 (sCnt g 1 m).toNatClampNeg p else -9223372036854775808
theorem sCnt_nat {g : Nat → Int32} {s : Int32} : ∀ k, ∃ c, c ≤ k ∧ sCnt g s k = nI c
  | 0 => ⟨0, Nat.le_refl _, rfl⟩
  | k + 1 => by
    obtain ⟨c, hc, e⟩ := sCnt_nat (g := g) (s := s) k
    rw [sCnt, e]
    by_cases h : g (10 * k + 3) = s
    · exact ⟨c + 1, by omega, by rw [decide_eq_true h]; exact nI_1 c⟩
    · exact ⟨c, by omega, by rw [decide_eq_false h]; exact Int32.add_zero _⟩
theorem i64_rng (x : Int32) : -2 ^ 62 < x.toInt64.toInt ∧ x.toInt64.toInt < 2 ^ 62 := by
  rw [Int32.toInt_toInt64]
  have h1 := Int32.le_toInt x
  have h2 := Int32.toInt_lt x
  omega
abbrev mX7_mean : MT := (RX7, cX7_mean, 3, (some .long), false)
theorem eX7_mean_0 : decode mX7_mean.2.1 0 = .ok (.aload_n 0, 1) := by decide +kernel
theorem eX7_mean_1 : decode mX7_mean.2.1 1 = .ok (.iconst 1, 1) := by decide +kernel
theorem eX7_mean_2 : decode mX7_mean.2.1 2 = .ok (.invokevirtual 117, 3) := by decide +kernel
theorem eX7_mean_5 : decode mX7_mean.2.1 5 = .ok (.istore_n 2, 1) := by decide +kernel
theorem eX7_mean_6 : decode mX7_mean.2.1 6 = .ok (.iload_n 1, 1) := by decide +kernel
theorem eX7_mean_7 : decode mX7_mean.2.1 7 = .ok (.iconst 0, 1) := by decide +kernel
theorem eX7_mean_8 : decode mX7_mean.2.1 8 = .ok (.iconst 1, 1) := by decide +kernel
theorem eX7_mean_9 : decode mX7_mean.2.1 9 = .ok (.invokestatic 80, 3) := by decide +kernel
theorem eX7_mean_12 : decode mX7_mean.2.1 12 = .ok (.ifCond .eq 21, 3) := by decide +kernel
theorem eX7_mean_15 : decode mX7_mean.2.1 15 = .ok (.iload_n 2, 1) := by decide +kernel
theorem eX7_mean_16 : decode mX7_mean.2.1 16 = .ok (.ifCond .le 17, 3) := by decide +kernel
theorem eX7_mean_19 : decode mX7_mean.2.1 19 = .ok (.aload_n 0, 1) := by decide +kernel
theorem eX7_mean_20 : decode mX7_mean.2.1 20 = .ok (.invokevirtual 191, 3) := by decide +kernel
theorem eX7_mean_23 : decode mX7_mean.2.1 23 = .ok (.i2l, 1) := by decide +kernel
theorem eX7_mean_24 : decode mX7_mean.2.1 24 = .ok (.iload_n 2, 1) := by decide +kernel
theorem eX7_mean_25 : decode mX7_mean.2.1 25 = .ok (.i2l, 1) := by decide +kernel
theorem eX7_mean_26 : decode mX7_mean.2.1 26 = .ok (.iload_n 1, 1) := by decide +kernel
theorem eX7_mean_27 : decode mX7_mean.2.1 27 = .ok (.invokestatic 232, 3) := by decide +kernel
theorem eX7_mean_30 : decode mX7_mean.2.1 30 = .ok (.goto 6, 3) := by decide +kernel
theorem eX7_mean_33 : decode mX7_mean.2.1 33 = .ok (.ldc2_w 228, 3) := by decide +kernel
theorem eX7_mean_36 : decode mX7_mean.2.1 36 = .ok (.lreturn, 1) := by decide +kernel
theorem c_X7_mean (hk : MK n g U U1) (hM : MAt h u U1) (hz : mZ U) (hg : gOk g m t) (p : Int32) (hd : 23 ≤ d) : Ct l G mX7_mean yX7_mean d 0 0 [.ref u, .int p] h (fun r h' => r = some (.long (sMean (mRd U) g m t p)) ∧ ∃ U', MAt h' u U' ∧ MK n g U U' ∧ Same u 19 h h') := by
  refine ct_of (lv := [some (.ref u), some (.int p), none]) (by decide +kernel) rfl (fun z => by cases z) (fun _ => rfl) (fun _ => Nat.le_of_ble_eq_true rfl) ?_
  have hgg := hg
  obtain ⟨hm, hm6, ht, ht2, hgq⟩ := hgg
  refine aw_aload_n (pc' := 1) eX7_mean_0 rfl rfl trivial ?_
  refine aw_iconst (pc' := 2) (v := 1) eX7_mean_1 rfl (by decide) ?_
  refine aw_callv (pc' := 5) (nn := 1) (c_X7_howMany (d := d - 1) hM (m := m) ⟨by rw [hk.1]; exact hm, hm6⟩ 1 (by omega)) eX7_mean_2 rfl ⟨q1005, q1008, q62⟩ q1007 q46 ⟨rfl, by decide +kernel, by decide +kernel, by decide +kernel⟩ rfl (by rw [hM.2.1]; exact ⟨rfl, rfl⟩) rfl ⟨by omega, by decide⟩ ⟨by omega, by omega⟩ rfl (Nat.le_of_ble_eq_true rfl) (fun v1 h2 hq3 => ?_)
  obtain ⟨rfl, rfl⟩ := hq3
  dsimp only [Option.toList, List.cons_append, List.nil_append]
  rw [hk.1]
  obtain ⟨c, hc, ec⟩ := sCnt_nat (g := g) (s := 1) m
  rw [ec]
  refine aw_istore_n (pc' := 6) eX7_mean_5 rfl (by decide) ?_
  dsimp only [zst, zst2, zcut]
  refine aw_iload_n (pc' := 7) eX7_mean_6 rfl rfl ?_
  refine aw_iconst (pc' := 8) (v := 0) eX7_mean_7 rfl (by decide) ?_
  refine aw_iconst (pc' := 9) (v := 1) eX7_mean_8 rfl (by decide) ?_
  refine aw_calls (pc' := 12) (nn := 3) (c_X7_isIn (d := d - 1) _ _ _ (by omega)) eX7_mean_9 rfl ⟨q890, q892, q62⟩ q891 ⟨by decide +kernel, by decide +kernel, by decide +kernel⟩ rfl ⟨by omega, by decide⟩ ⟨by omega, by omega⟩ rfl (Nat.le_of_ble_eq_true rfl) (fun v4 h5 hq6 => ?_)
  obtain ⟨rfl, rfl⟩ := hq6
  dsimp only [Option.toList, List.cons_append, List.nil_append]
  refine aw_if_eq (pc' := 15) (tgt := 33) eX7_mean_12 rfl (by decide) (fun c_12 => ?_) (fun c_12 => ?_)
  · refine aw_ldc2 (pc' := 36) eX7_mean_33 rfl q1086 ?_
    refine aw_ret (v := some (.long _)) eX7_mean_36 ⟨rfl, rfl⟩ (by omega) (by omega) rfl ?_
    simp only [zb_eq0, Bool.not_eq_false, Bool.not_eq_true, decide_eq_true_eq, decide_eq_false_iff_not, Decidable.not_not] at c_12
    exact ⟨by rw [sMean, if_neg (by rw [c_12]; simp)], _, hM, hk, Same.rf⟩
  · simp only [zb_eq0, Bool.not_eq_false, Bool.not_eq_true, decide_eq_true_eq, decide_eq_false_iff_not, Decidable.not_not] at c_12
    refine aw_iload_n (pc' := 16) eX7_mean_15 rfl rfl ?_
    refine aw_if_le (pc' := 19) (tgt := 33) eX7_mean_16 rfl (by decide) (fun c_16 => ?_) (fun c_16 => ?_)
    · refine aw_ldc2 (pc' := 36) eX7_mean_33 rfl q1086 ?_
      refine aw_ret (v := some (.long _)) eX7_mean_36 ⟨rfl, rfl⟩ (by omega) (by omega) rfl ?_
      exact ⟨by rw [sMean, if_neg (fun z => absurd z.2 (by rw [← ec] at c_16; first | exact c_16 | exact Int32.not_lt.mpr c_16))], _, hM, hk, Same.rf⟩
    · have hcp : 0 < sCnt g 1 m := by rw [ec]; exact (by first | exact Int32.not_le.mp c_16 | exact c_16)
      have hc0 : 0 < c := by
        refine Nat.pos_of_ne_zero fun z => ?_
        rw [ec, z] at hcp
        exact absurd hcp (by decide)
      refine aw_aload_n (pc' := 20) eX7_mean_19 rfl rfl trivial ?_
      refine aw_callv (pc' := 23) (nn := 0) (c_X7_loads (d := d - 1) hk hM hz hg (by omega)) eX7_mean_20 rfl ⟨q978, q981, q62⟩ q980 q41 ⟨rfl, by decide +kernel, by decide +kernel, by decide +kernel⟩ rfl (by rw [hM.2.1]; exact ⟨rfl, rfl⟩) rfl ⟨by omega, by decide⟩ ⟨by omega, by omega⟩ rfl (Nat.le_of_ble_eq_true rfl) (fun v11 h12 hq13 => ?_)
      obtain ⟨rfl, V9, hM7, k10, hs8⟩ := hq13
      dsimp only [Option.toList, List.cons_append, List.nil_append]
      refine aw_i2l (pc' := 24) eX7_mean_23 rfl ?_
      refine aw_iload_n (pc' := 25) eX7_mean_24 rfl rfl ?_
      refine aw_i2l (pc' := 26) eX7_mean_25 rfl ?_
      have hxx := i64_rng (sLoads (mRd U) g m t m)
      rw [nI_l (n := c) (by omega)]
      refine aw_iload_n (pc' := 27) eX7_mean_26 rfl rfl ?_
      refine aw_calls (pc' := 30) (nn := 3) (c_X7_fraction (d := d - 1) hxx (b := c) (by omega) (by omega) _ (by omega)) eX7_mean_27 rfl ⟨q1088, q1090, q62⟩ q1089 ⟨by decide +kernel, by decide +kernel, by decide +kernel⟩ rfl ⟨by omega, by decide⟩ ⟨by omega, by omega⟩ rfl (Nat.le_of_ble_eq_true rfl) (fun v14 h15 hq16 => ?_)
      obtain ⟨rfl, rfl⟩ := hq16
      dsimp only [Option.toList, List.cons_append, List.nil_append]
      refine aw_goto eX7_mean_30 (by decide) (tgt := 36) ?_
      refine aw_ret (v := some (.long _)) eX7_mean_36 ⟨rfl, rfl⟩ (by omega) (by omega) rfl ?_
      exact ⟨by rw [sMean, if_pos ⟨c_12, hcp⟩, ec, nI_clamp (by omega)], _, hM7, k10, hs8⟩
end M22
