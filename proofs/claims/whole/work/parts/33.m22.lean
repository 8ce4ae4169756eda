/-! the model: fractions -/
section M22
variable {l : Launch} {G : GT} {u : Nat} {U U1 : MS} {d n m t : Nat} {g : Nat → Int32} {h : Hp} {Q : Option Value → Hp → Prop}
theorem absL {x : Int64} (h1 : -2 ^ 62 < x.toInt) (h2 : x.toInt < 2 ^ 62) : (if 0 < x then x else -x) = lN x.toInt.natAbs := by
  apply Int64.toInt_inj.mp
  rw [pk_lT (by omega)]
  have hz : (0 : Int64).toInt = 0 := by decide
  split
  · rename_i z
    rw [Int64.lt_iff_toInt_lt, hz] at z
    omega
  · rename_i z
    rw [Int64.lt_iff_toInt_lt, hz] at z
    rw [Int64.toInt_neg, Int.bmod_eq_of_le (by omega) (by omega)]
    omega
def sFrac (x : Int64) (b : Nat) (p : Int32) : Int64 := if p = 0 then x / lN (Nat.gcd x.toInt.natAbs b) else lN b / lN (Nat.gcd x.toInt.natAbs b)

abbrev mX7_fraction : MT := (RX7, cX7_fraction, 11, (some .long), false)
theorem eX7_fraction_0 : decode mX7_fraction.2.1 0 = .ok (.lload_n 0, 1) := by decide +kernel
theorem eX7_fraction_1 : decode mX7_fraction.2.1 1 = .ok (.invokestatic 224, 3) := by decide +kernel
theorem eX7_fraction_4 : decode mX7_fraction.2.1 4 = .ok (.lstore 5, 2) := by decide +kernel
theorem eX7_fraction_6 : decode mX7_fraction.2.1 6 = .ok (.lload_n 2, 1) := by decide +kernel
theorem eX7_fraction_7 : decode mX7_fraction.2.1 7 = .ok (.lstore 7, 2) := by decide +kernel
theorem eX7_fraction_9 : decode mX7_fraction.2.1 9 = .ok (.lload 7, 2) := by decide +kernel
theorem eX7_fraction_11 : decode mX7_fraction.2.1 11 = .ok (.lconst 0, 1) := by decide +kernel
theorem eX7_fraction_12 : decode mX7_fraction.2.1 12 = .ok (.lcmp, 1) := by decide +kernel
theorem eX7_fraction_13 : decode mX7_fraction.2.1 13 = .ok (.ifCond .eq 21, 3) := by decide +kernel
theorem eX7_fraction_16 : decode mX7_fraction.2.1 16 = .ok (.lload 5, 2) := by decide +kernel
theorem eX7_fraction_18 : decode mX7_fraction.2.1 18 = .ok (.lload 7, 2) := by decide +kernel
theorem eX7_fraction_20 : decode mX7_fraction.2.1 20 = .ok (.lrem, 1) := by decide +kernel
theorem eX7_fraction_21 : decode mX7_fraction.2.1 21 = .ok (.lstore 9, 2) := by decide +kernel
theorem eX7_fraction_23 : decode mX7_fraction.2.1 23 = .ok (.lload 7, 2) := by decide +kernel
theorem eX7_fraction_25 : decode mX7_fraction.2.1 25 = .ok (.lstore 5, 2) := by decide +kernel
theorem eX7_fraction_27 : decode mX7_fraction.2.1 27 = .ok (.lload 9, 2) := by decide +kernel
theorem eX7_fraction_29 : decode mX7_fraction.2.1 29 = .ok (.lstore 7, 2) := by decide +kernel
theorem eX7_fraction_31 : decode mX7_fraction.2.1 31 = .ok (.goto (-22), 3) := by decide +kernel
theorem eX7_fraction_34 : decode mX7_fraction.2.1 34 = .ok (.iload 4, 2) := by decide +kernel
theorem eX7_fraction_36 : decode mX7_fraction.2.1 36 = .ok (.ifCond .ne 10, 3) := by decide +kernel
theorem eX7_fraction_39 : decode mX7_fraction.2.1 39 = .ok (.lload_n 0, 1) := by decide +kernel
theorem eX7_fraction_40 : decode mX7_fraction.2.1 40 = .ok (.lload 5, 2) := by decide +kernel
theorem eX7_fraction_42 : decode mX7_fraction.2.1 42 = .ok (.ldiv, 1) := by decide +kernel
theorem eX7_fraction_43 : decode mX7_fraction.2.1 43 = .ok (.goto 7, 3) := by decide +kernel
theorem eX7_fraction_46 : decode mX7_fraction.2.1 46 = .ok (.lload_n 2, 1) := by decide +kernel
theorem eX7_fraction_47 : decode mX7_fraction.2.1 47 = .ok (.lload 5, 2) := by decide +kernel
theorem eX7_fraction_49 : decode mX7_fraction.2.1 49 = .ok (.ldiv, 1) := by decide +kernel
theorem eX7_fraction_50 : decode mX7_fraction.2.1 50 = .ok (.lreturn, 1) := by decide +kernel
theorem lp_X7_fraction {x : Int64} {b : Nat} (hb0 : 0 < b) {p : Int32} : ∀ (B A : Nat) (o9 : Int64), A < 2 ^ 63 ∧ B < 2 ^ 63 → Nat.gcd A B = Nat.gcd x.toInt.natAbs b → AW l G mX7_fraction d 0 0 (fun r h' => r = some (.long (sFrac x b p)) ∧ h' = h) 0 0 h [some (.long x), none, some (.long (lN b)), none, some (.int p), some (.long (lN A)), none, some (.long (lN B)), none, some (.long o9), none] [] 9 := by
  intro B
  induction B using Nat.strongRecOn with
  | _ B ih =>
    intro A o9 hAB hg
    refine aw_lload (pc' := 11) eX7_fraction_9 rfl rfl ?_
    refine aw_lconst (pc' := 12) (v := 0) eX7_fraction_11 rfl (by decide) ?_
    refine aw_lcmp (pc' := 13) eX7_fraction_12 rfl ?_
    refine aw_if_eq (pc' := 16) (tgt := 34) eX7_fraction_13 rfl (by decide) (fun c_13 => ?_) (fun c_13 => ?_)
    · have e0 : B = 0 := by
        have z := (lg_cmp_eq _ _).mp (by first | exact c_13 | exact Decidable.not_not.mp c_13)
        exact (pk_lEQ (b := 0) (by omega) (by omega)).mp z
      subst e0
      rw [Nat.gcd_zero_right] at hg
      have hA : ¬ lN A = 0 := fun z => by
        have y := (pk_lEQ (b := 0) (by omega) (by omega)).mp z
        rw [y] at hg
        exact absurd hg.symm (Nat.ne_of_gt (Nat.gcd_pos_of_pos_right _ hb0))
      refine aw_iload (pc' := 36) eX7_fraction_34 rfl rfl ?_
      refine aw_if_ne (pc' := 39) (tgt := 46) eX7_fraction_36 rfl (by decide) (fun c_36 => ?_) (fun c_36 => ?_)
      · refine aw_lload_n (pc' := 47) eX7_fraction_46 rfl rfl ?_
        refine aw_lload (pc' := 49) eX7_fraction_47 rfl rfl ?_
        refine aw_ldiv (pc' := 50) eX7_fraction_49 rfl hA ?_
        refine aw_ret (v := some (.long _)) eX7_fraction_50 ⟨rfl, rfl⟩ (by omega) (by omega) rfl ?_
        refine ⟨?_, rfl⟩
        rw [sFrac, ← hg]
        exact congrArg (fun v => some (Value.long v)) (if_neg c_36).symm
      · refine aw_lload_n (pc' := 40) eX7_fraction_39 rfl rfl ?_
        refine aw_lload (pc' := 42) eX7_fraction_40 rfl rfl ?_
        refine aw_ldiv (pc' := 43) eX7_fraction_42 rfl hA ?_
        refine aw_goto eX7_fraction_43 (by decide) (tgt := 50) ?_
        refine aw_ret (v := some (.long _)) eX7_fraction_50 ⟨rfl, rfl⟩ (by omega) (by omega) rfl ?_
        refine ⟨?_, rfl⟩
        rw [sFrac, ← hg]
        exact congrArg (fun v => some (Value.long v)) (if_pos (by first | exact c_36 | exact Decidable.not_not.mp c_36)).symm
    · have hBz : ¬ lN B = 0 := fun z => c_13 ((lg_cmp_eq _ _).mpr z)
      refine aw_lload (pc' := 18) eX7_fraction_16 rfl rfl ?_
      refine aw_lload (pc' := 20) eX7_fraction_18 rfl rfl ?_
      refine aw_lrem (pc' := 21) eX7_fraction_20 rfl hBz ?_
      refine aw_lstore (pc' := 23) eX7_fraction_21 rfl (by decide) ?_
      dsimp only [zst, zst2, zcut]
      refine aw_lload (pc' := 25) eX7_fraction_23 rfl rfl ?_
      refine aw_lstore (pc' := 27) eX7_fraction_25 rfl (by decide) ?_
      dsimp only [zst, zst2, zcut]
      refine aw_lload (pc' := 29) eX7_fraction_27 rfl rfl ?_
      refine aw_lstore (pc' := 31) eX7_fraction_29 rfl (by decide) ?_
      dsimp only [zst, zst2, zcut]
      refine aw_goto eX7_fraction_31 (by decide) (tgt := 9) ?_
      have hB : 0 < B := Nat.pos_of_ne_zero fun z => c_13 (by rw [z]; decide)
      rw [pk_lRem (by omega) hB (by omega)]
      have hlt : A % B < B := Nat.mod_lt _ hB
      refine ih (A % B) hlt B _ (by omega) ?_
      rw [← hg, Nat.gcd_comm A B, Nat.gcd_rec B A, Nat.gcd_comm]
end M22
