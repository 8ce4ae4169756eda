abbrev mX7_any : MT := (RX7, cX7_any, 3, (some .boolean), false)
theorem eX7_any_0 : decode mX7_any.2.1 0 = .ok (.aload_n 0, 1) := by decide +kernel
theorem eX7_any_1 : decode mX7_any.2.1 1 = .ok (.invokevirtual 162, 3) := by decide +kernel
theorem eX7_any_4 : decode mX7_any.2.1 4 = .ok (.istore_n 1, 1) := by decide +kernel
theorem eX7_any_5 : decode mX7_any.2.1 5 = .ok (.aload_n 0, 1) := by decide +kernel
theorem eX7_any_6 : decode mX7_any.2.1 6 = .ok (.bipush 124, 2) := by decide +kernel
theorem eX7_any_8 : decode mX7_any.2.1 8 = .ok (.invokevirtual 136, 3) := by decide +kernel
theorem eX7_any_11 : decode mX7_any.2.1 11 = .ok (.ifCond .eq 35, 3) := by decide +kernel
theorem eX7_any_14 : decode mX7_any.2.1 14 = .ok (.aload_n 0, 1) := by decide +kernel
theorem eX7_any_15 : decode mX7_any.2.1 15 = .ok (.dup, 1) := by decide +kernel
theorem eX7_any_16 : decode mX7_any.2.1 16 = .ok (.getfield 130, 3) := by decide +kernel
theorem eX7_any_19 : decode mX7_any.2.1 19 = .ok (.iconst 1, 1) := by decide +kernel
theorem eX7_any_20 : decode mX7_any.2.1 20 = .ok (.iadd, 1) := by decide +kernel
theorem eX7_any_21 : decode mX7_any.2.1 21 = .ok (.putfield 130, 3) := by decide +kernel
theorem eX7_any_24 : decode mX7_any.2.1 24 = .ok (.aload_n 0, 1) := by decide +kernel
theorem eX7_any_25 : decode mX7_any.2.1 25 = .ok (.invokevirtual 162, 3) := by decide +kernel
theorem eX7_any_28 : decode mX7_any.2.1 28 = .ok (.istore_n 2, 1) := by decide +kernel
theorem eX7_any_29 : decode mX7_any.2.1 29 = .ok (.iload_n 1, 1) := by decide +kernel
theorem eX7_any_30 : decode mX7_any.2.1 30 = .ok (.ifCond .ne 7, 3) := by decide +kernel
theorem eX7_any_33 : decode mX7_any.2.1 33 = .ok (.iload_n 2, 1) := by decide +kernel
theorem eX7_any_34 : decode mX7_any.2.1 34 = .ok (.ifCond .eq 7, 3) := by decide +kernel
theorem eX7_any_37 : decode mX7_any.2.1 37 = .ok (.iconst 1, 1) := by decide +kernel
theorem eX7_any_38 : decode mX7_any.2.1 38 = .ok (.goto 4, 3) := by decide +kernel
theorem eX7_any_41 : decode mX7_any.2.1 41 = .ok (.iconst 0, 1) := by decide +kernel
theorem eX7_any_42 : decode mX7_any.2.1 42 = .ok (.istore_n 1, 1) := by decide +kernel
theorem eX7_any_43 : decode mX7_any.2.1 43 = .ok (.goto (-38), 3) := by decide +kernel
theorem eX7_any_46 : decode mX7_any.2.1 46 = .ok (.iload_n 1, 1) := by decide +kernel
theorem eX7_any_47 : decode mX7_any.2.1 47 = .ok (.ireturn, 1) := by decide +kernel
abbrev mX7_both : MT := (RX7, cX7_both, 3, (some .boolean), false)
theorem eX7_both_0 : decode mX7_both.2.1 0 = .ok (.aload_n 0, 1) := by decide +kernel
theorem eX7_both_1 : decode mX7_both.2.1 1 = .ok (.invokevirtual 153, 3) := by decide +kernel
theorem eX7_both_4 : decode mX7_both.2.1 4 = .ok (.istore_n 1, 1) := by decide +kernel
theorem eX7_both_5 : decode mX7_both.2.1 5 = .ok (.aload_n 0, 1) := by decide +kernel
theorem eX7_both_6 : decode mX7_both.2.1 6 = .ok (.bipush 38, 2) := by decide +kernel
theorem eX7_both_8 : decode mX7_both.2.1 8 = .ok (.invokevirtual 136, 3) := by decide +kernel
theorem eX7_both_11 : decode mX7_both.2.1 11 = .ok (.ifCond .eq 35, 3) := by decide +kernel
theorem eX7_both_14 : decode mX7_both.2.1 14 = .ok (.aload_n 0, 1) := by decide +kernel
theorem eX7_both_15 : decode mX7_both.2.1 15 = .ok (.dup, 1) := by decide +kernel
theorem eX7_both_16 : decode mX7_both.2.1 16 = .ok (.getfield 130, 3) := by decide +kernel
theorem eX7_both_19 : decode mX7_both.2.1 19 = .ok (.iconst 1, 1) := by decide +kernel
theorem eX7_both_20 : decode mX7_both.2.1 20 = .ok (.iadd, 1) := by decide +kernel
theorem eX7_both_21 : decode mX7_both.2.1 21 = .ok (.putfield 130, 3) := by decide +kernel
theorem eX7_both_24 : decode mX7_both.2.1 24 = .ok (.aload_n 0, 1) := by decide +kernel
theorem eX7_both_25 : decode mX7_both.2.1 25 = .ok (.invokevirtual 153, 3) := by decide +kernel
theorem eX7_both_28 : decode mX7_both.2.1 28 = .ok (.istore_n 2, 1) := by decide +kernel
theorem eX7_both_29 : decode mX7_both.2.1 29 = .ok (.iload_n 1, 1) := by decide +kernel
theorem eX7_both_30 : decode mX7_both.2.1 30 = .ok (.ifCond .eq 11, 3) := by decide +kernel
theorem eX7_both_33 : decode mX7_both.2.1 33 = .ok (.iload_n 2, 1) := by decide +kernel
theorem eX7_both_34 : decode mX7_both.2.1 34 = .ok (.ifCond .eq 7, 3) := by decide +kernel
theorem eX7_both_37 : decode mX7_both.2.1 37 = .ok (.iconst 1, 1) := by decide +kernel
theorem eX7_both_38 : decode mX7_both.2.1 38 = .ok (.goto 4, 3) := by decide +kernel
theorem eX7_both_41 : decode mX7_both.2.1 41 = .ok (.iconst 0, 1) := by decide +kernel
theorem eX7_both_42 : decode mX7_both.2.1 42 = .ok (.istore_n 1, 1) := by decide +kernel
theorem eX7_both_43 : decode mX7_both.2.1 43 = .ok (.goto (-38), 3) := by decide +kernel
theorem eX7_both_46 : decode mX7_both.2.1 46 = .ok (.iload_n 1, 1) := by decide +kernel
theorem eX7_both_47 : decode mX7_both.2.1 47 = .ok (.ireturn, 1) := by decide +kernel
abbrev mX7_factor : MT := (RX7, cX7_factor, 2, (some .boolean), false)
theorem eX7_factor_0 : decode mX7_factor.2.1 0 = .ok (.aload_n 0, 1) := by decide +kernel
theorem eX7_factor_1 : decode mX7_factor.2.1 1 = .ok (.getfield 150, 3) := by decide +kernel
theorem eX7_factor_4 : decode mX7_factor.2.1 4 = .ok (.iconst 4, 1) := by decide +kernel
theorem eX7_factor_5 : decode mX7_factor.2.1 5 = .ok (.if_icmp .ge 58, 3) := by decide +kernel
theorem eX7_factor_8 : decode mX7_factor.2.1 8 = .ok (.aload_n 0, 1) := by decide +kernel
theorem eX7_factor_9 : decode mX7_factor.2.1 9 = .ok (.bipush 33, 2) := by decide +kernel
theorem eX7_factor_11 : decode mX7_factor.2.1 11 = .ok (.invokevirtual 136, 3) := by decide +kernel
theorem eX7_factor_14 : decode mX7_factor.2.1 14 = .ok (.ifCond .eq 49, 3) := by decide +kernel
theorem eX7_factor_17 : decode mX7_factor.2.1 17 = .ok (.aload_n 0, 1) := by decide +kernel
theorem eX7_factor_18 : decode mX7_factor.2.1 18 = .ok (.dup, 1) := by decide +kernel
theorem eX7_factor_19 : decode mX7_factor.2.1 19 = .ok (.getfield 130, 3) := by decide +kernel
theorem eX7_factor_22 : decode mX7_factor.2.1 22 = .ok (.iconst 1, 1) := by decide +kernel
theorem eX7_factor_23 : decode mX7_factor.2.1 23 = .ok (.iadd, 1) := by decide +kernel
theorem eX7_factor_24 : decode mX7_factor.2.1 24 = .ok (.putfield 130, 3) := by decide +kernel
theorem eX7_factor_27 : decode mX7_factor.2.1 27 = .ok (.aload_n 0, 1) := by decide +kernel
theorem eX7_factor_28 : decode mX7_factor.2.1 28 = .ok (.dup, 1) := by decide +kernel
theorem eX7_factor_29 : decode mX7_factor.2.1 29 = .ok (.getfield 150, 3) := by decide +kernel
theorem eX7_factor_32 : decode mX7_factor.2.1 32 = .ok (.iconst 1, 1) := by decide +kernel
theorem eX7_factor_33 : decode mX7_factor.2.1 33 = .ok (.iadd, 1) := by decide +kernel
theorem eX7_factor_34 : decode mX7_factor.2.1 34 = .ok (.putfield 150, 3) := by decide +kernel
theorem eX7_factor_37 : decode mX7_factor.2.1 37 = .ok (.aload_n 0, 1) := by decide +kernel
theorem eX7_factor_38 : decode mX7_factor.2.1 38 = .ok (.invokevirtual 153, 3) := by decide +kernel
theorem eX7_factor_41 : decode mX7_factor.2.1 41 = .ok (.ifCond .ne 7, 3) := by decide +kernel
theorem eX7_factor_44 : decode mX7_factor.2.1 44 = .ok (.iconst 1, 1) := by decide +kernel
theorem eX7_factor_45 : decode mX7_factor.2.1 45 = .ok (.goto 4, 3) := by decide +kernel
theorem eX7_factor_48 : decode mX7_factor.2.1 48 = .ok (.iconst 0, 1) := by decide +kernel
theorem eX7_factor_49 : decode mX7_factor.2.1 49 = .ok (.istore_n 1, 1) := by decide +kernel
theorem eX7_factor_50 : decode mX7_factor.2.1 50 = .ok (.aload_n 0, 1) := by decide +kernel
theorem eX7_factor_51 : decode mX7_factor.2.1 51 = .ok (.dup, 1) := by decide +kernel
theorem eX7_factor_52 : decode mX7_factor.2.1 52 = .ok (.getfield 150, 3) := by decide +kernel
theorem eX7_factor_55 : decode mX7_factor.2.1 55 = .ok (.iconst 1, 1) := by decide +kernel
theorem eX7_factor_56 : decode mX7_factor.2.1 56 = .ok (.isub, 1) := by decide +kernel
theorem eX7_factor_57 : decode mX7_factor.2.1 57 = .ok (.putfield 150, 3) := by decide +kernel
theorem eX7_factor_60 : decode mX7_factor.2.1 60 = .ok (.goto 69, 3) := by decide +kernel
theorem eX7_factor_63 : decode mX7_factor.2.1 63 = .ok (.aload_n 0, 1) := by decide +kernel
theorem eX7_factor_64 : decode mX7_factor.2.1 64 = .ok (.getfield 150, 3) := by decide +kernel
theorem eX7_factor_67 : decode mX7_factor.2.1 67 = .ok (.iconst 4, 1) := by decide +kernel
theorem eX7_factor_68 : decode mX7_factor.2.1 68 = .ok (.if_icmp .ge 56, 3) := by decide +kernel
theorem eX7_factor_71 : decode mX7_factor.2.1 71 = .ok (.aload_n 0, 1) := by decide +kernel
theorem eX7_factor_72 : decode mX7_factor.2.1 72 = .ok (.bipush 40, 2) := by decide +kernel
theorem eX7_factor_74 : decode mX7_factor.2.1 74 = .ok (.invokevirtual 136, 3) := by decide +kernel
theorem eX7_factor_77 : decode mX7_factor.2.1 77 = .ok (.ifCond .eq 47, 3) := by decide +kernel
theorem eX7_factor_80 : decode mX7_factor.2.1 80 = .ok (.aload_n 0, 1) := by decide +kernel
theorem eX7_factor_81 : decode mX7_factor.2.1 81 = .ok (.dup, 1) := by decide +kernel
theorem eX7_factor_82 : decode mX7_factor.2.1 82 = .ok (.getfield 130, 3) := by decide +kernel
theorem eX7_factor_85 : decode mX7_factor.2.1 85 = .ok (.iconst 1, 1) := by decide +kernel
theorem eX7_factor_86 : decode mX7_factor.2.1 86 = .ok (.iadd, 1) := by decide +kernel
theorem eX7_factor_87 : decode mX7_factor.2.1 87 = .ok (.putfield 130, 3) := by decide +kernel
theorem eX7_factor_90 : decode mX7_factor.2.1 90 = .ok (.aload_n 0, 1) := by decide +kernel
theorem eX7_factor_91 : decode mX7_factor.2.1 91 = .ok (.dup, 1) := by decide +kernel
theorem eX7_factor_92 : decode mX7_factor.2.1 92 = .ok (.getfield 150, 3) := by decide +kernel
theorem eX7_factor_95 : decode mX7_factor.2.1 95 = .ok (.iconst 1, 1) := by decide +kernel
theorem eX7_factor_96 : decode mX7_factor.2.1 96 = .ok (.iadd, 1) := by decide +kernel
theorem eX7_factor_97 : decode mX7_factor.2.1 97 = .ok (.putfield 150, 3) := by decide +kernel
theorem eX7_factor_100 : decode mX7_factor.2.1 100 = .ok (.aload_n 0, 1) := by decide +kernel
theorem eX7_factor_101 : decode mX7_factor.2.1 101 = .ok (.invokevirtual 156, 3) := by decide +kernel
theorem eX7_factor_104 : decode mX7_factor.2.1 104 = .ok (.istore_n 1, 1) := by decide +kernel
theorem eX7_factor_105 : decode mX7_factor.2.1 105 = .ok (.aload_n 0, 1) := by decide +kernel
theorem eX7_factor_106 : decode mX7_factor.2.1 106 = .ok (.dup, 1) := by decide +kernel
theorem eX7_factor_107 : decode mX7_factor.2.1 107 = .ok (.getfield 150, 3) := by decide +kernel
theorem eX7_factor_110 : decode mX7_factor.2.1 110 = .ok (.iconst 1, 1) := by decide +kernel
theorem eX7_factor_111 : decode mX7_factor.2.1 111 = .ok (.isub, 1) := by decide +kernel
theorem eX7_factor_112 : decode mX7_factor.2.1 112 = .ok (.putfield 150, 3) := by decide +kernel
theorem eX7_factor_115 : decode mX7_factor.2.1 115 = .ok (.aload_n 0, 1) := by decide +kernel
theorem eX7_factor_116 : decode mX7_factor.2.1 116 = .ok (.bipush 41, 2) := by decide +kernel
theorem eX7_factor_118 : decode mX7_factor.2.1 118 = .ok (.invokevirtual 143, 3) := by decide +kernel
theorem eX7_factor_121 : decode mX7_factor.2.1 121 = .ok (.goto 8, 3) := by decide +kernel
theorem eX7_factor_124 : decode mX7_factor.2.1 124 = .ok (.aload_n 0, 1) := by decide +kernel
theorem eX7_factor_125 : decode mX7_factor.2.1 125 = .ok (.invokevirtual 159, 3) := by decide +kernel
theorem eX7_factor_128 : decode mX7_factor.2.1 128 = .ok (.istore_n 1, 1) := by decide +kernel
theorem eX7_factor_129 : decode mX7_factor.2.1 129 = .ok (.iload_n 1, 1) := by decide +kernel
theorem eX7_factor_130 : decode mX7_factor.2.1 130 = .ok (.ireturn, 1) := by decide +kernel
/-! the model's parser: E, T, F -/
section M9
variable {l : Launch} {G : GT} {u : Nat} {U : MS}
/-- by fuel: 0 F, 1 T, 2 T goes on, 3 E, 4 E goes on -/
def pX (R : Nat → Int32) (n : Nat) (L N : Nat → Int32) : Nat → Nat → Nat → Bool → PP → Bool × PP
  | 0, _, _, _, p => (false, p)
  | f + 1, 0, k, _, p => if k < 4 ∧ pAt R n p 33 = true then (!(pX R n L N f 0 (k + 1) false (p.1 + 1, p.2)).1, (pX R n L N f 0 (k + 1) false (p.1 + 1, p.2)).2)
      else if k < 4 ∧ pAt R n p 40 = true then ((pX R n L N f 3 (k + 1) false (p.1 + 1, p.2)).1, pTk R n (pX R n L N f 3 (k + 1) false (p.1 + 1, p.2)).2 41) else pTest R n L N p
  | f + 1, 1, k, _, p => pX R n L N f 2 k (pX R n L N f 0 k false p).1 (pX R n L N f 0 k false p).2
  | f + 1, 2, k, b, p => if pAt R n p 38 = true then pX R n L N f 2 k (b && (pX R n L N f 0 k false (p.1 + 1, p.2)).1) (pX R n L N f 0 k false (p.1 + 1, p.2)).2 else (b, p)
  | f + 1, 3, k, _, p => pX R n L N f 4 k (pX R n L N f 1 k false p).1 (pX R n L N f 1 k false p).2
  | f + 1, _ + 4, k, b, p => if pAt R n p 124 = true then pX R n L N f 4 k (b || (pX R n L N f 1 k false (p.1 + 1, p.2)).1) (pX R n L N f 1 k false (p.1 + 1, p.2)).2 else (b, p)
theorem pTk_ge {R : Nat → Int32} {n : Nat} {p : PP} {c : Int32} : p.1 ≤ (pTk R n p c).1 := by
  unfold pTk
  split
  · show p.1 ≤ p.1 + 1; omega
  · exact Nat.le_refl _
theorem pNum_ge {R : Nat → Int32} {n : Nat} {p : PP} : p.1 ≤ (pNum R n p).2.1 := by
  unfold pNum
  split
  · split
    · show p.1 ≤ p.1 + 2; omega
    · show p.1 ≤ p.1 + 1; omega
  · exact Nat.le_refl _
theorem pTest_ge {R : Nat → Int32} {n : Nat} {L N : Nat → Int32} {p : PP} : p.1 ≤ (pTest R n L N p).2.1 := by
  unfold pTest
  split
  · exact Nat.le_refl _
  · exact Nat.le_trans (Nat.le_trans (Nat.le_succ p.1) (pTk_ge (p := (p.1 + 1, p.2)))) pNum_ge
theorem pX_mon {R : Nat → Int32} {n : Nat} {L N : Nat → Int32} : ∀ (f t k : Nat) (b : Bool) (p : PP), p.1 ≤ n → p.1 ≤ (pX R n L N f t k b p).2.1 ∧ (pX R n L N f t k b p).2.1 ≤ n
  | 0, t, k, b, p, h => by unfold pX; exact ⟨Nat.le_refl _, h⟩
  | f + 1, 0, k, b, p, h => by
    rw [pX]
    split
    · rename_i z
      have := pAt_lt z.2
      have h2 := pX_mon (R := R) (n := n) (L := L) (N := N) f 0 (k + 1) false (p.1 + 1, p.2) (by show p.1 + 1 ≤ n; omega)
      exact ⟨Nat.le_trans (Nat.le_succ _) h2.1, h2.2⟩
    · split
      · rename_i z
        have := pAt_lt z.2
        have h2 := pX_mon (R := R) (n := n) (L := L) (N := N) f 3 (k + 1) false (p.1 + 1, p.2) (by show p.1 + 1 ≤ n; omega)
        exact ⟨Nat.le_trans (Nat.le_trans (Nat.le_succ _) h2.1) pTk_ge, pTk_le h2.2⟩
      · exact ⟨pTest_ge, pTest_le h⟩
  | f + 1, 1, k, b, p, h => by
    rw [pX]
    have h1 := pX_mon (R := R) (n := n) (L := L) (N := N) f 0 k false p h
    have h2 := pX_mon (R := R) (n := n) (L := L) (N := N) f 2 k (pX R n L N f 0 k false p).1 _ h1.2
    exact ⟨Nat.le_trans h1.1 h2.1, h2.2⟩
  | f + 1, 2, k, b, p, h => by
    rw [pX]
    split
    · rename_i z
      have := pAt_lt z
      have h1 := pX_mon (R := R) (n := n) (L := L) (N := N) f 0 k false (p.1 + 1, p.2) (by show p.1 + 1 ≤ n; omega)
      have h2 := pX_mon (R := R) (n := n) (L := L) (N := N) f 2 k (b && (pX R n L N f 0 k false (p.1 + 1, p.2)).1) _ h1.2
      exact ⟨Nat.le_trans (Nat.le_trans (Nat.le_succ _) h1.1) h2.1, h2.2⟩
    · exact ⟨Nat.le_refl _, h⟩
  | f + 1, 3, k, b, p, h => by
    rw [pX]
    have h1 := pX_mon (R := R) (n := n) (L := L) (N := N) f 1 k false p h
    have h2 := pX_mon (R := R) (n := n) (L := L) (N := N) f 4 k (pX R n L N f 1 k false p).1 _ h1.2
    exact ⟨Nat.le_trans h1.1 h2.1, h2.2⟩
  | f + 1, t + 4, k, b, p, h => by
    rw [pX]
    split
    · rename_i z
      have := pAt_lt z
      have h1 := pX_mon (R := R) (n := n) (L := L) (N := N) f 1 k false (p.1 + 1, p.2) (by show p.1 + 1 ≤ n; omega)
      have h2 := pX_mon (R := R) (n := n) (L := L) (N := N) f 4 k (b || (pX R n L N f 1 k false (p.1 + 1, p.2)).1) _ h1.2
      exact ⟨Nat.le_trans (Nat.le_trans (Nat.le_succ _) h1.1) h2.1, h2.2⟩
    · exact ⟨Nat.le_refl _, h⟩
    all_goals exact h
/-- the model with 'within' k -/
abbrev wk (U : MS) (k : Nat) : MS := msc U 13 (nI k)
theorem wk_in (U : MS) (k k' : Nat) (p : PP) {x : Int32} (hx : x = nI k') : msc (mp (wk U k) p) 13 x = mp (wk U k') p := by
  subst hx
  unfold mp wk msc
  congr 2
  funext j
  by_cases h1 : j = 13
  · subst h1; simp
  · simp [h1]
abbrev px (U : MS) (n f t k : Nat) (b : Bool) (p : PP) : Bool × PP := pX (U.1 7) n (U.1 9) (U.1 8) f t k b p
def FC (l : Launch) (G : GT) (u : Nat) (U : MS) (n f : Nat) : Prop := ∀ (d k : Nat) (p : PP) (h : Hp), MAt h u (mp (wk U k) p) → k ≤ 4 → p.1 ≤ n → 4 * (n - p.1) + 1 ≤ f → 15 ≤ d + 3 * k → Ct l G mX7_factor yX7_factor d 0 0 [.ref u] h (fun r h' => r = some (.int (zb (px U n f 0 k false p).1)) ∧ MAt h' u (mp (wk U k) (px U n f 0 k false p).2) ∧ Same u 19 h h')
def BC (l : Launch) (G : GT) (u : Nat) (U : MS) (n f : Nat) : Prop := ∀ (d k : Nat) (p : PP) (h : Hp), MAt h u (mp (wk U k) p) → k ≤ 4 → p.1 ≤ n → 4 * (n - p.1) + 2 ≤ f → 16 ≤ d + 3 * k → Ct l G mX7_both yX7_both d 0 0 [.ref u] h (fun r h' => r = some (.int (zb (px U n f 1 k false p).1)) ∧ MAt h' u (mp (wk U k) (px U n f 1 k false p).2) ∧ Same u 19 h h')
def EC (l : Launch) (G : GT) (u : Nat) (U : MS) (n f : Nat) : Prop := ∀ (d k : Nat) (p : PP) (h : Hp), MAt h u (mp (wk U k) p) → k ≤ 4 → p.1 ≤ n → 4 * (n - p.1) + 3 ≤ f → 17 ≤ d + 3 * k → Ct l G mX7_any yX7_any d 0 0 [.ref u] h (fun r h' => r = some (.int (zb (px U n f 3 k false p).1)) ∧ MAt h' u (mp (wk U k) (px U n f 3 k false p).2) ∧ Same u 19 h h')

theorem step_F {n f : Nat} (hn : pOk U n) (ih : FC l G u U n f ∧ BC l G u U n f ∧ EC l G u U n f) : FC l G u U n (f + 1) := by
  intro d k p h hM hk hp hf hd
  have n100 := hn.2
  refine ct_of (lv := [some (.ref u), none]) (by decide +kernel) rfl (fun z => by cases z) (fun _ => rfl) (fun _ => Nat.le_of_ble_eq_true rfl) ?_
  refine aw_aload_n (pc' := 1) eX7_factor_0 rfl rfl trivial ?_
  refine aw_Mint (pc' := 4) (kf := 13) hM eX7_factor_1 rfl (by decide) q802 ?_
  refine aw_iconst (pc' := 5) (v := 4) eX7_factor_4 rfl (by decide) ?_
  refine aw_icmp_ge (pc' := 8) (tgt := 63) eX7_factor_5 rfl (by decide) (fun c_5 => ?_) (fun c_5 => ?_)
  · refine aw_aload_n (pc' := 64) eX7_factor_63 rfl rfl trivial ?_
    refine aw_Mint (pc' := 67) (kf := 13) hM eX7_factor_64 rfl (by decide) q802 ?_
    refine aw_iconst (pc' := 68) (v := 4) eX7_factor_67 rfl (by decide) ?_
    refine aw_icmp_ge (pc' := 71) (tgt := 124) eX7_factor_68 rfl (by decide) (fun c_68 => ?_) (fun c_68 => ?_)
    · have hk5 : 4 ≤ k := ge_nI (a := k) (b := 4) (by omega) (by omega) c_5
      refine aw_aload_n (pc' := 125) eX7_factor_124 rfl rfl trivial ?_
      refine aw_callv (pc' := 128) (nn := 0) (c_X7_test (d := d - 1) hM (show pOk (wk U k) n from hn) hp (by omega)) eX7_factor_125 rfl ⟨q949, q952, q62⟩ q951 q34 ⟨rfl, by decide +kernel, by decide +kernel, by decide +kernel⟩ rfl (by rw [hM.2.1]; exact ⟨rfl, rfl⟩) rfl ⟨by omega, by decide⟩ ⟨by omega, by omega⟩ rfl (Nat.le_of_ble_eq_true rfl) (fun v3 h4 hq5 => ?_)
      obtain ⟨rfl, hM1, hs2⟩ := hq5
      dsimp only [Option.toList, List.cons_append, List.nil_append]
      refine aw_istore_n (pc' := 129) eX7_factor_128 rfl (by decide) ?_
      dsimp only [zst, zst2, zcut]
      refine aw_iload_n (pc' := 130) eX7_factor_129 rfl rfl ?_
      refine aw_ret (v := some (.int _)) eX7_factor_130 ⟨rfl, by first | exact zbn _ | rfl⟩ (by omega) (by omega) rfl ?_
      have e : px U n (f + 1) 0 k false p = pTest (U.1 7) n (U.1 9) (U.1 8) p := by
        show pX _ _ _ _ (f + 1) 0 k false p = _
        rw [pX, if_neg (fun z => absurd z.1 (by omega))]; exact if_neg (fun z => absurd z.1 (by omega))
      exact ⟨by rw [e]; rfl, by rw [e]; exact hM1, hs2⟩
    · have hk5 : k < 4 := nge_nI (a := k) (b := 4) (by omega) (by omega) c_68
      exact absurd hk5 (by have := ge_nI (a := k) (b := 4) (by omega) (by omega) c_5; omega)
  · have hk4 : k < 4 := nge_nI (a := k) (b := 4) (by omega) (by omega) c_5
    refine aw_aload_n (pc' := 9) eX7_factor_8 rfl rfl trivial ?_
    refine aw_bipush (pc' := 11) (v := 33) eX7_factor_9 rfl (by decide) ?_
    refine aw_callv (pc' := 14) (nn := 1) (c_X7_isAt (d := d - 1) hM (show pOk (wk U k) n from hn) hp _ (by omega)) eX7_factor_11 rfl ⟨q921, q924, q62⟩ q923 q27 ⟨rfl, by decide +kernel, by decide +kernel, by decide +kernel⟩ rfl (by rw [hM.2.1]; exact ⟨rfl, rfl⟩) rfl ⟨by omega, by decide⟩ ⟨by omega, by omega⟩ rfl (Nat.le_of_ble_eq_true rfl) (fun v6 h7 hq8 => ?_)
    obtain ⟨rfl, rfl⟩ := hq8
    dsimp only [Option.toList, List.cons_append, List.nil_append]
    refine aw_if_eq (pc' := 17) (tgt := 63) eX7_factor_14 rfl (by decide) (fun c_14 => ?_) (fun c_14 => ?_)
    · refine aw_aload_n (pc' := 64) eX7_factor_63 rfl rfl trivial ?_
      refine aw_Mint (pc' := 67) (kf := 13) hM eX7_factor_64 rfl (by decide) q802 ?_
      refine aw_iconst (pc' := 68) (v := 4) eX7_factor_67 rfl (by decide) ?_
      refine aw_icmp_ge (pc' := 71) (tgt := 124) eX7_factor_68 rfl (by decide) (fun c_68 => ?_) (fun c_68 => ?_)
      · have hk5 : 4 ≤ k := ge_nI (a := k) (b := 4) (by omega) (by omega) c_68
        exact absurd hk4 (by omega)
      · refine aw_aload_n (pc' := 72) eX7_factor_71 rfl rfl trivial ?_
        refine aw_bipush (pc' := 74) (v := 40) eX7_factor_72 rfl (by decide) ?_
        refine aw_callv (pc' := 77) (nn := 1) (c_X7_isAt (d := d - 1) hM (show pOk (wk U k) n from hn) hp _ (by omega)) eX7_factor_74 rfl ⟨q921, q924, q62⟩ q923 q27 ⟨rfl, by decide +kernel, by decide +kernel, by decide +kernel⟩ rfl (by rw [hM.2.1]; exact ⟨rfl, rfl⟩) rfl ⟨by omega, by decide⟩ ⟨by omega, by omega⟩ rfl (Nat.le_of_ble_eq_true rfl) (fun v9 h10 hq11 => ?_)
        obtain ⟨rfl, rfl⟩ := hq11
        dsimp only [Option.toList, List.cons_append, List.nil_append]
        refine aw_if_eq (pc' := 80) (tgt := 124) eX7_factor_77 rfl (by decide) (fun c_77 => ?_) (fun c_77 => ?_)
        · -- 
          refine aw_aload_n (pc' := 125) eX7_factor_124 rfl rfl trivial ?_
          refine aw_callv (pc' := 128) (nn := 0) (c_X7_test (d := d - 1) hM (show pOk (wk U k) n from hn) hp (by omega)) eX7_factor_125 rfl ⟨q949, q952, q62⟩ q951 q34 ⟨rfl, by decide +kernel, by decide +kernel, by decide +kernel⟩ rfl (by rw [hM.2.1]; exact ⟨rfl, rfl⟩) rfl ⟨by omega, by decide⟩ ⟨by omega, by omega⟩ rfl (Nat.le_of_ble_eq_true rfl) (fun v14 h15 hq16 => ?_)
          obtain ⟨rfl, hM12, hs13⟩ := hq16
          dsimp only [Option.toList, List.cons_append, List.nil_append]
          refine aw_istore_n (pc' := 129) eX7_factor_128 rfl (by decide) ?_
          dsimp only [zst, zst2, zcut]
          refine aw_iload_n (pc' := 130) eX7_factor_129 rfl rfl ?_
          refine aw_ret (v := some (.int _)) eX7_factor_130 ⟨rfl, by first | exact zbn _ | rfl⟩ (by omega) (by omega) rfl ?_
          have g14 : pAt (U.1 7) n p 33 = false := by (have z := c_14; (try simp only [zb_eq0, Bool.not_eq_false, Bool.not_eq_true, decide_eq_true_eq, decide_eq_false_iff_not, Decidable.not_not] at z); exact z)
          have g77 : pAt (U.1 7) n p 40 = false := by (have z := c_77; (try simp only [zb_eq0, Bool.not_eq_false, Bool.not_eq_true, decide_eq_true_eq, decide_eq_false_iff_not, Decidable.not_not] at z); exact z)
          have e : px U n (f + 1) 0 k false p = pTest (U.1 7) n (U.1 9) (U.1 8) p := by
            show pX _ _ _ _ (f + 1) 0 k false p = _
            rw [pX, if_neg (by rw [g14]; simp)]; exact if_neg (by rw [g77]; simp)
          exact ⟨by rw [e]; rfl, by rw [e]; exact hM12, hs13⟩
        · simp only [zb_eq0, Bool.not_eq_false, Bool.not_eq_true, decide_eq_true_eq, decide_eq_false_iff_not, Decidable.not_not] at c_77
          have b9 : p.1 < n := pAt_lt c_77
          refine aw_aload_n (pc' := 81) eX7_factor_80 rfl rfl trivial ?_
          refine aw_dup (pc' := 82) eX7_factor_81 rfl rfl ?_
          refine aw_Mint (pc' := 85) (kf := 11) hM eX7_factor_82 rfl (by decide) q800 ?_
          refine aw_iconst (pc' := 86) (v := 1) eX7_factor_85 rfl (by decide) ?_
          refine aw_iadd (pc' := 87) eX7_factor_86 rfl ?_
          refine aw_Mput (pc' := 90) 11 hM eX7_factor_87 rfl (by decide) (fun z => absurd z (by decide)) q800 (fun h19 hM17 hs18 => ?_)
          have hMa := hM17
          rw [show msc (mp (wk U k) p) 11 ((mp (wk U k) p).2.1 11 + 1) = mp (wk U k) (p.1 + 1, p.2) from mp_at _ p (p.1 + 1) (nI_1 p.1)] at hMa
          refine aw_aload_n (pc' := 91) eX7_factor_90 rfl rfl trivial ?_
          refine aw_dup (pc' := 92) eX7_factor_91 rfl rfl ?_
          refine aw_Mint (pc' := 95) (kf := 13) hMa eX7_factor_92 rfl (by decide) q802 ?_
          refine aw_iconst (pc' := 96) (v := 1) eX7_factor_95 rfl (by decide) ?_
          refine aw_iadd (pc' := 97) eX7_factor_96 rfl ?_
          refine aw_Mput (pc' := 100) 13 hMa eX7_factor_97 rfl (by decide) (fun z => absurd z (by decide)) q802 (fun h22 hM20 hs21 => ?_)
          have hT23 := hs18.tr hs21
          have hMb := hM20
          rw [show msc (mp (wk U k) (p.1 + 1, p.2)) 13 ((mp (wk U k) (p.1 + 1, p.2)).2.1 13 + 1) = mp (wk U (k + 1)) (p.1 + 1, p.2) from wk_in U k (k + 1) (p.1 + 1, p.2) (nI_1 k)] at hMb
          refine aw_aload_n (pc' := 101) eX7_factor_100 rfl rfl trivial ?_
          refine aw_callv (pc' := 104) (nn := 0) (ih.2.2 (d - 1) (k + 1) (p.1 + 1, p.2) _ hMb (by omega) (by show p.1 + 1 ≤ n; omega) (by show 4 * (n - (p.1 + 1)) + 3 ≤ f; omega) (by omega)) eX7_factor_101 rfl ⟨q937, q940, q62⟩ q939 q31 ⟨rfl, by decide +kernel, by decide +kernel, by decide +kernel⟩ rfl (by rw [hMb.2.1]; exact ⟨rfl, rfl⟩) rfl ⟨by omega, by decide⟩ ⟨by omega, by omega⟩ rfl (Nat.le_of_ble_eq_true rfl) (fun v26 h27 hq28 => ?_)
          obtain ⟨rfl, hM24, hs25⟩ := hq28
          have hT29 := hT23.tr hs25
          dsimp only [Option.toList, List.cons_append, List.nil_append]
          refine aw_istore_n (pc' := 105) eX7_factor_104 rfl (by decide) ?_
          dsimp only [zst, zst2, zcut]
          refine aw_aload_n (pc' := 106) eX7_factor_105 rfl rfl trivial ?_
          refine aw_dup (pc' := 107) eX7_factor_106 rfl rfl ?_
          refine aw_Mint (pc' := 110) (kf := 13) hM24 eX7_factor_107 rfl (by decide) q802 ?_
          refine aw_iconst (pc' := 111) (v := 1) eX7_factor_110 rfl (by decide) ?_
          refine aw_isub (pc' := 112) eX7_factor_111 rfl ?_
          refine aw_Mput (pc' := 115) 13 hM24 eX7_factor_112 rfl (by decide) (fun z => absurd z (by decide)) q802 (fun h32 hM30 hs31 => ?_)
          have hT33 := hT29.tr hs31
          have hMc := hM30
          rw [show msc (mp (wk U (k + 1)) (px U n f 3 (k + 1) false (p.1 + 1, p.2)).2) 13 ((mp (wk U (k + 1)) (px U n f 3 (k + 1) false (p.1 + 1, p.2)).2).2.1 13 - 1) = mp (wk U k) (px U n f 3 (k + 1) false (p.1 + 1, p.2)).2 from wk_in U (k + 1) k (px U n f 3 (k + 1) false (p.1 + 1, p.2)).2 (nI_m1)] at hMc
          have m3 := (pX_mon (R := U.1 7) (n := n) (L := U.1 9) (N := U.1 8) f 3 (k + 1) false (p.1 + 1, p.2) (by show p.1 + 1 ≤ n; omega)).2
          refine aw_aload_n (pc' := 116) eX7_factor_115 rfl rfl trivial ?_
          refine aw_bipush (pc' := 118) (v := 41) eX7_factor_116 rfl (by decide) ?_
          refine aw_callv (pc' := 121) (nn := 1) (c_X7_takes (d := d - 1) hMc (show pOk (wk U k) n from hn) m3 _ (by omega)) eX7_factor_118 rfl ⟨q925, q928, q62⟩ q927 q28 ⟨rfl, by decide +kernel, by decide +kernel, by decide +kernel⟩ rfl (by rw [hMc.2.1]; exact ⟨rfl, rfl⟩) rfl ⟨by omega, by decide⟩ ⟨by omega, by omega⟩ rfl (Nat.le_of_ble_eq_true rfl) (fun v36 h37 hq38 => ?_)
          obtain ⟨rfl, hM34, hs35⟩ := hq38
          have hT39 := hT33.tr hs35
          dsimp only [Option.toList, List.cons_append, List.nil_append]
          refine aw_goto eX7_factor_121 (by decide) (tgt := 129) ?_
          refine aw_iload_n (pc' := 130) eX7_factor_129 rfl rfl ?_
          refine aw_ret (v := some (.int _)) eX7_factor_130 ⟨rfl, by first | exact zbn _ | rfl⟩ (by omega) (by omega) rfl ?_
          have g14 : pAt (U.1 7) n p 33 = false := by (have z := c_14; (try simp only [zb_eq0, Bool.not_eq_false, Bool.not_eq_true, decide_eq_true_eq, decide_eq_false_iff_not, Decidable.not_not] at z); exact z)
          have g77 : pAt (U.1 7) n p 40 = true := by (have z := c_77; (try simp only [zb_eq0, Bool.not_eq_false, Bool.not_eq_true, decide_eq_true_eq, decide_eq_false_iff_not, Decidable.not_not] at z); exact z)
          have e : px U n (f + 1) 0 k false p = ((px U n f 3 (k + 1) false (p.1 + 1, p.2)).1, pTk (U.1 7) n (px U n f 3 (k + 1) false (p.1 + 1, p.2)).2 41) := by
            show pX _ _ _ _ (f + 1) 0 k false p = _
            rw [pX, if_neg (by rw [g14]; simp)]; exact if_pos ⟨hk4, g77⟩
          exact ⟨by rw [e], by rw [e]; exact hM34, hT39⟩
    · simp only [zb_eq0, Bool.not_eq_false, Bool.not_eq_true, decide_eq_true_eq, decide_eq_false_iff_not, Decidable.not_not] at c_14
      have b9 : p.1 < n := pAt_lt c_14
      refine aw_aload_n (pc' := 18) eX7_factor_17 rfl rfl trivial ?_
      refine aw_dup (pc' := 19) eX7_factor_18 rfl rfl ?_
      refine aw_Mint (pc' := 22) (kf := 11) hM eX7_factor_19 rfl (by decide) q800 ?_
      refine aw_iconst (pc' := 23) (v := 1) eX7_factor_22 rfl (by decide) ?_
      refine aw_iadd (pc' := 24) eX7_factor_23 rfl ?_
      refine aw_Mput (pc' := 27) 11 hM eX7_factor_24 rfl (by decide) (fun z => absurd z (by decide)) q800 (fun h42 hM40 hs41 => ?_)
      have hMa := hM40
      rw [show msc (mp (wk U k) p) 11 ((mp (wk U k) p).2.1 11 + 1) = mp (wk U k) (p.1 + 1, p.2) from mp_at _ p (p.1 + 1) (nI_1 p.1)] at hMa
      refine aw_aload_n (pc' := 28) eX7_factor_27 rfl rfl trivial ?_
      refine aw_dup (pc' := 29) eX7_factor_28 rfl rfl ?_
      refine aw_Mint (pc' := 32) (kf := 13) hMa eX7_factor_29 rfl (by decide) q802 ?_
      refine aw_iconst (pc' := 33) (v := 1) eX7_factor_32 rfl (by decide) ?_
      refine aw_iadd (pc' := 34) eX7_factor_33 rfl ?_
      refine aw_Mput (pc' := 37) 13 hMa eX7_factor_34 rfl (by decide) (fun z => absurd z (by decide)) q802 (fun h45 hM43 hs44 => ?_)
      have hT46 := hs41.tr hs44
      have hMb := hM43
      rw [show msc (mp (wk U k) (p.1 + 1, p.2)) 13 ((mp (wk U k) (p.1 + 1, p.2)).2.1 13 + 1) = mp (wk U (k + 1)) (p.1 + 1, p.2) from wk_in U k (k + 1) (p.1 + 1, p.2) (nI_1 k)] at hMb
      refine aw_aload_n (pc' := 38) eX7_factor_37 rfl rfl trivial ?_
      refine aw_callv (pc' := 41) (nn := 0) (ih.1 (d - 1) (k + 1) (p.1 + 1, p.2) _ hMb (by omega) (by show p.1 + 1 ≤ n; omega) (by show 4 * (n - (p.1 + 1)) + 1 ≤ f; omega) (by omega)) eX7_factor_38 rfl ⟨q945, q948, q62⟩ q947 q33 ⟨rfl, by decide +kernel, by decide +kernel, by decide +kernel⟩ rfl (by rw [hMb.2.1]; exact ⟨rfl, rfl⟩) rfl ⟨by omega, by decide⟩ ⟨by omega, by omega⟩ rfl (Nat.le_of_ble_eq_true rfl) (fun v49 h50 hq51 => ?_)
      obtain ⟨rfl, hM47, hs48⟩ := hq51
      have hT52 := hT46.tr hs48
      dsimp only [Option.toList, List.cons_append, List.nil_append]
      refine aw_if_ne (pc' := 44) (tgt := 48) eX7_factor_41 rfl (by decide) (fun c_41 => ?_) (fun c_41 => ?_)
      · refine aw_iconst (pc' := 49) (v := 0) eX7_factor_48 rfl (by decide) ?_
        refine aw_istore_n (pc' := 50) eX7_factor_49 rfl (by decide) ?_
        dsimp only [zst, zst2, zcut]
        refine aw_aload_n (pc' := 51) eX7_factor_50 rfl rfl trivial ?_
        refine aw_dup (pc' := 52) eX7_factor_51 rfl rfl ?_
        refine aw_Mint (pc' := 55) (kf := 13) hM47 eX7_factor_52 rfl (by decide) q802 ?_
        refine aw_iconst (pc' := 56) (v := 1) eX7_factor_55 rfl (by decide) ?_
        refine aw_isub (pc' := 57) eX7_factor_56 rfl ?_
        refine aw_Mput (pc' := 60) 13 hM47 eX7_factor_57 rfl (by decide) (fun z => absurd z (by decide)) q802 (fun h55 hM53 hs54 => ?_)
        have hT56 := hT52.tr hs54
        have hMc := hM53
        rw [show msc (mp (wk U (k + 1)) (px U n f 0 (k + 1) false (p.1 + 1, p.2)).2) 13 ((mp (wk U (k + 1)) (px U n f 0 (k + 1) false (p.1 + 1, p.2)).2).2.1 13 - 1) = mp (wk U k) (px U n f 0 (k + 1) false (p.1 + 1, p.2)).2 from wk_in U (k + 1) k (px U n f 0 (k + 1) false (p.1 + 1, p.2)).2 (nI_m1)] at hMc
        refine aw_goto eX7_factor_60 (by decide) (tgt := 129) ?_
        refine aw_iload_n (pc' := 130) eX7_factor_129 rfl rfl ?_
        refine aw_ret (v := some (.int _)) eX7_factor_130 ⟨rfl, by first | exact zbn _ | rfl⟩ (by omega) (by omega) rfl ?_
        have g14 : pAt (U.1 7) n p 33 = true := by (have z := c_14; (try simp only [zb_eq0, Bool.not_eq_false, Bool.not_eq_true, decide_eq_true_eq, decide_eq_false_iff_not, Decidable.not_not] at z); exact z)
        have g41 : (px U n f 0 (k + 1) false (p.1 + 1, p.2)).1 = true := by (have z := c_41; (try simp only [zb_eq0, Bool.not_eq_false, Bool.not_eq_true, decide_eq_true_eq, decide_eq_false_iff_not, Decidable.not_not] at z); exact z)
        have e : px U n (f + 1) 0 k false p = (!(px U n f 0 (k + 1) false (p.1 + 1, p.2)).1, (px U n f 0 (k + 1) false (p.1 + 1, p.2)).2) := by
          show pX _ _ _ _ (f + 1) 0 k false p = _
          rw [pX]; exact if_pos ⟨hk4, g14⟩
        exact ⟨by rw [e]; simp [zb, g41], by rw [e]; exact hMc, hT56⟩
      · refine aw_iconst (pc' := 45) (v := 1) eX7_factor_44 rfl (by decide) ?_
        refine aw_goto eX7_factor_45 (by decide) (tgt := 49) ?_
        refine aw_istore_n (pc' := 50) eX7_factor_49 rfl (by decide) ?_
        dsimp only [zst, zst2, zcut]
        refine aw_aload_n (pc' := 51) eX7_factor_50 rfl rfl trivial ?_
        refine aw_dup (pc' := 52) eX7_factor_51 rfl rfl ?_
        refine aw_Mint (pc' := 55) (kf := 13) hM47 eX7_factor_52 rfl (by decide) q802 ?_
        refine aw_iconst (pc' := 56) (v := 1) eX7_factor_55 rfl (by decide) ?_
        refine aw_isub (pc' := 57) eX7_factor_56 rfl ?_
        refine aw_Mput (pc' := 60) 13 hM47 eX7_factor_57 rfl (by decide) (fun z => absurd z (by decide)) q802 (fun h59 hM57 hs58 => ?_)
        have hT60 := hT52.tr hs58
        have hMc := hM57
        rw [show msc (mp (wk U (k + 1)) (px U n f 0 (k + 1) false (p.1 + 1, p.2)).2) 13 ((mp (wk U (k + 1)) (px U n f 0 (k + 1) false (p.1 + 1, p.2)).2).2.1 13 - 1) = mp (wk U k) (px U n f 0 (k + 1) false (p.1 + 1, p.2)).2 from wk_in U (k + 1) k (px U n f 0 (k + 1) false (p.1 + 1, p.2)).2 (nI_m1)] at hMc
        refine aw_goto eX7_factor_60 (by decide) (tgt := 129) ?_
        refine aw_iload_n (pc' := 130) eX7_factor_129 rfl rfl ?_
        refine aw_ret (v := some (.int _)) eX7_factor_130 ⟨rfl, by first | exact zbn _ | rfl⟩ (by omega) (by omega) rfl ?_
        have g14 : pAt (U.1 7) n p 33 = true := by (have z := c_14; (try simp only [zb_eq0, Bool.not_eq_false, Bool.not_eq_true, decide_eq_true_eq, decide_eq_false_iff_not, Decidable.not_not] at z); exact z)
        have g41 : (px U n f 0 (k + 1) false (p.1 + 1, p.2)).1 = false := by (have z := c_41; (try simp only [zb_eq0, Bool.not_eq_false, Bool.not_eq_true, decide_eq_true_eq, decide_eq_false_iff_not, Decidable.not_not] at z); exact z)
        have e : px U n (f + 1) 0 k false p = (!(px U n f 0 (k + 1) false (p.1 + 1, p.2)).1, (px U n f 0 (k + 1) false (p.1 + 1, p.2)).2) := by
          show pX _ _ _ _ (f + 1) 0 k false p = _
          rw [pX]; exact if_pos ⟨hk4, g14⟩
        exact ⟨by rw [e]; simp [zb, g41], by rw [e]; exact hMc, hT60⟩
theorem lp_X7_both {Q : Option Value → Hp → Prop} {n f : Nat} (hn : pOk U n) {k d : Nat} (hk : k ≤ 4) (hd : 16 ≤ d + 3 * k) (ih : ∀ g, g < f → FC l G u U n g) : ∀ (g : Nat), g ≤ f → ∀ (b : Bool) (x : Int32) (o : Option Value) (p : PP) (h : Hp), p.1 ≤ n → 4 * (n - p.1) + 1 ≤ g → x = zb b → MAt h u (mp (wk U k) p) → (∀ h', MAt h' u (mp (wk U k) (px U n g 2 k b p).2) → Same u 19 h h' → Q (some (.int (zb (px U n g 2 k b p).1))) h') → AW l G mX7_both d 0 0 Q 0 0 h [some (.ref u), some (.int x), o] [] 5 := by
  intro g
  induction g with
  | zero => intro _ b x o p h hp hf; omega
  | succ g ihg =>
    intro hg b x o p h hp hf hx hM hQ
    subst hx
    have n100 := hn.2
    refine aw_aload_n (pc' := 6) eX7_both_5 rfl rfl trivial ?_
    refine aw_bipush (pc' := 8) (v := 38) eX7_both_6 rfl (by decide) ?_
    refine aw_callv (pc' := 11) (nn := 1) (c_X7_isAt (d := d - 1) hM (show pOk (wk U k) n from hn) hp _ (by omega)) eX7_both_8 rfl ⟨q921, q924, q62⟩ q923 q27 ⟨rfl, by decide +kernel, by decide +kernel, by decide +kernel⟩ rfl (by rw [hM.2.1]; exact ⟨rfl, rfl⟩) rfl ⟨by omega, by decide⟩ ⟨by omega, by omega⟩ rfl (Nat.le_of_ble_eq_true rfl) (fun v1 h2 hq3 => ?_)
    obtain ⟨rfl, rfl⟩ := hq3
    dsimp only [Option.toList, List.cons_append, List.nil_append]
    refine aw_if_eq (pc' := 14) (tgt := 46) eX7_both_11 rfl (by decide) (fun c_11 => ?_) (fun c_11 => ?_)
    · refine aw_iload_n (pc' := 47) eX7_both_46 rfl rfl ?_
      refine aw_ret (v := some (.int _)) eX7_both_47 ⟨rfl, zbn _⟩ (by omega) (by omega) rfl ?_
      have g11 : pAt (U.1 7) n p 38 = false := by (have z := c_11; (try simp only [zb_eq0, Bool.not_eq_false, Bool.not_eq_true, decide_eq_true_eq, decide_eq_false_iff_not, Decidable.not_not] at z); exact z)
      have e : px U n (g + 1) 2 k b p = (b, p) := by
        show pX _ _ _ _ (g + 1) 2 k b p = _
        rw [pX]; exact if_neg (by rw [g11]; decide)
      rw [e] at hQ
      exact hQ _ hM Same.rf
    · have g11 : pAt (U.1 7) n p 38 = true := by (have z := c_11; (try simp only [zb_eq0, Bool.not_eq_false, Bool.not_eq_true, decide_eq_true_eq, decide_eq_false_iff_not, Decidable.not_not] at z); exact z)
      have b9 : p.1 < n := pAt_lt g11
      refine aw_aload_n (pc' := 15) eX7_both_14 rfl rfl trivial ?_
      refine aw_dup (pc' := 16) eX7_both_15 rfl rfl ?_
      refine aw_Mint (pc' := 19) (kf := 11) hM eX7_both_16 rfl (by decide) q800 ?_
      refine aw_iconst (pc' := 20) (v := 1) eX7_both_19 rfl (by decide) ?_
      refine aw_iadd (pc' := 21) eX7_both_20 rfl ?_
      refine aw_Mput (pc' := 24) 11 hM eX7_both_21 rfl (by decide) (fun z => absurd z (by decide)) q800 (fun h6 hM4 hs5 => ?_)
      have hMa := hM4
      rw [show msc (mp (wk U k) p) 11 ((mp (wk U k) p).2.1 11 + 1) = mp (wk U k) (p.1 + 1, p.2) from mp_at _ p (p.1 + 1) (nI_1 p.1)] at hMa
      refine aw_aload_n (pc' := 25) eX7_both_24 rfl rfl trivial ?_
      refine aw_callv (pc' := 28) (nn := 0) ((ih g (by omega)) (d - 1) k (p.1 + 1, p.2) _ hMa hk (by show p.1 + 1 ≤ n; omega) (by show 4 * (n - (p.1 + 1)) + 1 ≤ g; omega) (by omega)) eX7_both_25 rfl ⟨q945, q948, q62⟩ q947 q33 ⟨rfl, by decide +kernel, by decide +kernel, by decide +kernel⟩ rfl (by rw [hMa.2.1]; exact ⟨rfl, rfl⟩) rfl ⟨by omega, by decide⟩ ⟨by omega, by omega⟩ rfl (Nat.le_of_ble_eq_true rfl) (fun v9 h10 hq11 => ?_)
      obtain ⟨rfl, hM7, hs8⟩ := hq11
      have hT12 := hs5.tr hs8
      dsimp only [Option.toList, List.cons_append, List.nil_append]
      refine aw_istore_n (pc' := 29) eX7_both_28 rfl (by decide) ?_
      dsimp only [zst, zst2, zcut]
      refine aw_iload_n (pc' := 30) eX7_both_29 rfl rfl ?_
      refine aw_if_eq (pc' := 33) (tgt := 41) eX7_both_30 rfl (by decide) (fun c_30 => ?_) (fun c_30 => ?_)
      · refine aw_iconst (pc' := 42) (v := 0) eX7_both_41 rfl (by decide) ?_
        refine aw_istore_n (pc' := 43) eX7_both_42 rfl (by decide) ?_
        dsimp only [zst, zst2, zcut]
        refine aw_goto eX7_both_43 (by decide) (tgt := 5) ?_
        have mm := pX_mon (R := U.1 7) (n := n) (L := U.1 9) (N := U.1 8) g 0 k false (p.1 + 1, p.2) (by show p.1 + 1 ≤ n; omega)
        have g30 : b = false := by (have z := c_30; (try simp only [zb_eq0, Bool.not_eq_false, Bool.not_eq_true, decide_eq_true_eq, decide_eq_false_iff_not, Decidable.not_not] at z); exact z)
        have e : px U n (g + 1) 2 k b p = px U n g 2 k (b && (px U n g 0 k false (p.1 + 1, p.2)).1) (px U n g 0 k false (p.1 + 1, p.2)).2 := by
          show pX _ _ _ _ (g + 1) 2 k b p = _
          rw [pX]; exact if_pos g11
        rw [e] at hQ
        have m1 : p.1 + 1 ≤ (px U n g 0 k false (p.1 + 1, p.2)).2.1 := mm.1
        refine ihg (by omega) (b && (px U n g 0 k false (p.1 + 1, p.2)).1) 0 _ (px U n g 0 k false (p.1 + 1, p.2)).2 _ mm.2 (by omega) (by simp [zb, g30]) hM7 (fun h' a1 a2 => hQ h' a1 ((hT12).tr a2))
      · refine aw_iload_n (pc' := 34) eX7_both_33 rfl rfl ?_
        refine aw_if_eq (pc' := 37) (tgt := 41) eX7_both_34 rfl (by decide) (fun c_34 => ?_) (fun c_34 => ?_)
        · refine aw_iconst (pc' := 42) (v := 0) eX7_both_41 rfl (by decide) ?_
          refine aw_istore_n (pc' := 43) eX7_both_42 rfl (by decide) ?_
          dsimp only [zst, zst2, zcut]
          refine aw_goto eX7_both_43 (by decide) (tgt := 5) ?_
          have mm := pX_mon (R := U.1 7) (n := n) (L := U.1 9) (N := U.1 8) g 0 k false (p.1 + 1, p.2) (by show p.1 + 1 ≤ n; omega)
          have g30 : b = true := by (have z := c_30; (try simp only [zb_eq0, Bool.not_eq_false, Bool.not_eq_true, decide_eq_true_eq, decide_eq_false_iff_not, Decidable.not_not] at z); exact z)
          have g34 : (px U n g 0 k false (p.1 + 1, p.2)).1 = false := by (have z := c_34; (try simp only [zb_eq0, Bool.not_eq_false, Bool.not_eq_true, decide_eq_true_eq, decide_eq_false_iff_not, Decidable.not_not] at z); exact z)
          have e : px U n (g + 1) 2 k b p = px U n g 2 k (b && (px U n g 0 k false (p.1 + 1, p.2)).1) (px U n g 0 k false (p.1 + 1, p.2)).2 := by
            show pX _ _ _ _ (g + 1) 2 k b p = _
            rw [pX]; exact if_pos g11
          rw [e] at hQ
          have m1 : p.1 + 1 ≤ (px U n g 0 k false (p.1 + 1, p.2)).2.1 := mm.1
          refine ihg (by omega) (b && (px U n g 0 k false (p.1 + 1, p.2)).1) 0 _ (px U n g 0 k false (p.1 + 1, p.2)).2 _ mm.2 (by omega) (by simp [zb, g30, g34]) hM7 (fun h' a1 a2 => hQ h' a1 ((hT12).tr a2))
        · refine aw_iconst (pc' := 38) (v := 1) eX7_both_37 rfl (by decide) ?_
          refine aw_goto eX7_both_38 (by decide) (tgt := 42) ?_
          refine aw_istore_n (pc' := 43) eX7_both_42 rfl (by decide) ?_
          dsimp only [zst, zst2, zcut]
          refine aw_goto eX7_both_43 (by decide) (tgt := 5) ?_
          have mm := pX_mon (R := U.1 7) (n := n) (L := U.1 9) (N := U.1 8) g 0 k false (p.1 + 1, p.2) (by show p.1 + 1 ≤ n; omega)
          have g30 : b = true := by (have z := c_30; (try simp only [zb_eq0, Bool.not_eq_false, Bool.not_eq_true, decide_eq_true_eq, decide_eq_false_iff_not, Decidable.not_not] at z); exact z)
          have g34 : (px U n g 0 k false (p.1 + 1, p.2)).1 = true := by (have z := c_34; (try simp only [zb_eq0, Bool.not_eq_false, Bool.not_eq_true, decide_eq_true_eq, decide_eq_false_iff_not, Decidable.not_not] at z); exact z)
          have e : px U n (g + 1) 2 k b p = px U n g 2 k (b && (px U n g 0 k false (p.1 + 1, p.2)).1) (px U n g 0 k false (p.1 + 1, p.2)).2 := by
            show pX _ _ _ _ (g + 1) 2 k b p = _
            rw [pX]; exact if_pos g11
          rw [e] at hQ
          have m1 : p.1 + 1 ≤ (px U n g 0 k false (p.1 + 1, p.2)).2.1 := mm.1
          refine ihg (by omega) (b && (px U n g 0 k false (p.1 + 1, p.2)).1) 1 _ (px U n g 0 k false (p.1 + 1, p.2)).2 _ mm.2 (by omega) (by simp [zb, g30, g34]) hM7 (fun h' a1 a2 => hQ h' a1 ((hT12).tr a2))
theorem step_B {n f : Nat} (hn : pOk U n) (ih : ∀ g, g < f + 1 → FC l G u U n g) : BC l G u U n (f + 1) := by
  intro d k p h hM hk hp hf hd
  have n100 := hn.2
  refine ct_of (lv := [some (.ref u), none, none]) (by decide +kernel) rfl (fun z => by cases z) (fun _ => rfl) (fun _ => Nat.le_of_ble_eq_true rfl) ?_
  have mm := pX_mon (R := U.1 7) (n := n) (L := U.1 9) (N := U.1 8) f 0 k false p hp
  have m1 : p.1 ≤ (px U n f 0 k false p).2.1 := mm.1
  have e : px U n (f + 1) 1 k false p = px U n f 2 k (px U n f 0 k false p).1 (px U n f 0 k false p).2 := by
    show pX _ _ _ _ (f + 1) 1 k false p = _
    rw [pX]
  rw [e]
  refine aw_aload_n (pc' := 1) eX7_both_0 rfl rfl trivial ?_
  refine aw_callv (pc' := 4) (nn := 0) ((ih f (by omega)) (d - 1) k p _ hM hk hp (by omega) (by omega)) eX7_both_1 rfl ⟨q945, q948, q62⟩ q947 q33 ⟨rfl, by decide +kernel, by decide +kernel, by decide +kernel⟩ rfl (by rw [hM.2.1]; exact ⟨rfl, rfl⟩) rfl ⟨by omega, by decide⟩ ⟨by omega, by omega⟩ rfl (Nat.le_of_ble_eq_true rfl) (fun v3 h4 hq5 => ?_)
  obtain ⟨rfl, hM1, hs2⟩ := hq5
  dsimp only [Option.toList, List.cons_append, List.nil_append]
  refine aw_istore_n (pc' := 5) eX7_both_4 rfl (by decide) ?_
  dsimp only [zst, zst2, zcut]
  exact lp_X7_both hn hk hd (f := f) (fun g hg => ih g (by omega)) f (Nat.le_refl f) (px U n f 0 k false p).1 _ _ (px U n f 0 k false p).2 _ mm.2 (by omega) rfl hM1 (fun h' a1 a2 => ⟨rfl, a1, (hs2).tr a2⟩)
theorem lp_X7_any {Q : Option Value → Hp → Prop} {n f : Nat} (hn : pOk U n) {k d : Nat} (hk : k ≤ 4) (hd : 17 ≤ d + 3 * k) (ih : ∀ g, g < f → BC l G u U n g) : ∀ (g : Nat), g ≤ f → ∀ (b : Bool) (x : Int32) (o : Option Value) (p : PP) (h : Hp), p.1 ≤ n → 4 * (n - p.1) + 2 ≤ g → x = zb b → MAt h u (mp (wk U k) p) → (∀ h', MAt h' u (mp (wk U k) (px U n g 4 k b p).2) → Same u 19 h h' → Q (some (.int (zb (px U n g 4 k b p).1))) h') → AW l G mX7_any d 0 0 Q 0 0 h [some (.ref u), some (.int x), o] [] 5 := by
  intro g
  induction g with
  | zero => intro _ b x o p h hp hf; omega
  | succ g ihg =>
    intro hg b x o p h hp hf hx hM hQ
    subst hx
    have n100 := hn.2
    refine aw_aload_n (pc' := 6) eX7_any_5 rfl rfl trivial ?_
    refine aw_bipush (pc' := 8) (v := 124) eX7_any_6 rfl (by decide) ?_
    refine aw_callv (pc' := 11) (nn := 1) (c_X7_isAt (d := d - 1) hM (show pOk (wk U k) n from hn) hp _ (by omega)) eX7_any_8 rfl ⟨q921, q924, q62⟩ q923 q27 ⟨rfl, by decide +kernel, by decide +kernel, by decide +kernel⟩ rfl (by rw [hM.2.1]; exact ⟨rfl, rfl⟩) rfl ⟨by omega, by decide⟩ ⟨by omega, by omega⟩ rfl (Nat.le_of_ble_eq_true rfl) (fun v1 h2 hq3 => ?_)
    obtain ⟨rfl, rfl⟩ := hq3
    dsimp only [Option.toList, List.cons_append, List.nil_append]
    refine aw_if_eq (pc' := 14) (tgt := 46) eX7_any_11 rfl (by decide) (fun c_11 => ?_) (fun c_11 => ?_)
    · refine aw_iload_n (pc' := 47) eX7_any_46 rfl rfl ?_
      refine aw_ret (v := some (.int _)) eX7_any_47 ⟨rfl, zbn _⟩ (by omega) (by omega) rfl ?_
      have g11 : pAt (U.1 7) n p 124 = false := by (have z := c_11; (try simp only [zb_eq0, Bool.not_eq_false, Bool.not_eq_true, decide_eq_true_eq, decide_eq_false_iff_not, Decidable.not_not] at z); exact z)
      have e : px U n (g + 1) 4 k b p = (b, p) := by
        show pX _ _ _ _ (g + 1) 4 k b p = _
        rw [pX]; exact if_neg (by rw [g11]; decide)
      rw [e] at hQ
      exact hQ _ hM Same.rf
    · have g11 : pAt (U.1 7) n p 124 = true := by (have z := c_11; (try simp only [zb_eq0, Bool.not_eq_false, Bool.not_eq_true, decide_eq_true_eq, decide_eq_false_iff_not, Decidable.not_not] at z); exact z)
      have b9 : p.1 < n := pAt_lt g11
      refine aw_aload_n (pc' := 15) eX7_any_14 rfl rfl trivial ?_
      refine aw_dup (pc' := 16) eX7_any_15 rfl rfl ?_
      refine aw_Mint (pc' := 19) (kf := 11) hM eX7_any_16 rfl (by decide) q800 ?_
      refine aw_iconst (pc' := 20) (v := 1) eX7_any_19 rfl (by decide) ?_
      refine aw_iadd (pc' := 21) eX7_any_20 rfl ?_
      refine aw_Mput (pc' := 24) 11 hM eX7_any_21 rfl (by decide) (fun z => absurd z (by decide)) q800 (fun h6 hM4 hs5 => ?_)
      have hMa := hM4
      rw [show msc (mp (wk U k) p) 11 ((mp (wk U k) p).2.1 11 + 1) = mp (wk U k) (p.1 + 1, p.2) from mp_at _ p (p.1 + 1) (nI_1 p.1)] at hMa
      refine aw_aload_n (pc' := 25) eX7_any_24 rfl rfl trivial ?_
      refine aw_callv (pc' := 28) (nn := 0) ((ih g (by omega)) (d - 1) k (p.1 + 1, p.2) _ hMa hk (by show p.1 + 1 ≤ n; omega) (by show 4 * (n - (p.1 + 1)) + 2 ≤ g; omega) (by omega)) eX7_any_25 rfl ⟨q941, q944, q62⟩ q943 q32 ⟨rfl, by decide +kernel, by decide +kernel, by decide +kernel⟩ rfl (by rw [hMa.2.1]; exact ⟨rfl, rfl⟩) rfl ⟨by omega, by decide⟩ ⟨by omega, by omega⟩ rfl (Nat.le_of_ble_eq_true rfl) (fun v9 h10 hq11 => ?_)
      obtain ⟨rfl, hM7, hs8⟩ := hq11
      have hT12 := hs5.tr hs8
      dsimp only [Option.toList, List.cons_append, List.nil_append]
      refine aw_istore_n (pc' := 29) eX7_any_28 rfl (by decide) ?_
      dsimp only [zst, zst2, zcut]
      refine aw_iload_n (pc' := 30) eX7_any_29 rfl rfl ?_
      refine aw_if_ne (pc' := 33) (tgt := 37) eX7_any_30 rfl (by decide) (fun c_30 => ?_) (fun c_30 => ?_)
      · refine aw_iconst (pc' := 38) (v := 1) eX7_any_37 rfl (by decide) ?_
        refine aw_goto eX7_any_38 (by decide) (tgt := 42) ?_
        refine aw_istore_n (pc' := 43) eX7_any_42 rfl (by decide) ?_
        dsimp only [zst, zst2, zcut]
        refine aw_goto eX7_any_43 (by decide) (tgt := 5) ?_
        have mm := pX_mon (R := U.1 7) (n := n) (L := U.1 9) (N := U.1 8) g 1 k false (p.1 + 1, p.2) (by show p.1 + 1 ≤ n; omega)
        have g30 : b = true := by (have z := c_30; (try simp only [zb_eq0, Bool.not_eq_false, Bool.not_eq_true, decide_eq_true_eq, decide_eq_false_iff_not, Decidable.not_not] at z); exact z)
        have e : px U n (g + 1) 4 k b p = px U n g 4 k (b || (px U n g 1 k false (p.1 + 1, p.2)).1) (px U n g 1 k false (p.1 + 1, p.2)).2 := by
          show pX _ _ _ _ (g + 1) 4 k b p = _
          rw [pX]; exact if_pos g11
        rw [e] at hQ
        have m1 : p.1 + 1 ≤ (px U n g 1 k false (p.1 + 1, p.2)).2.1 := mm.1
        refine ihg (by omega) (b || (px U n g 1 k false (p.1 + 1, p.2)).1) 1 _ (px U n g 1 k false (p.1 + 1, p.2)).2 _ mm.2 (by omega) (by simp [zb, g30]) hM7 (fun h' a1 a2 => hQ h' a1 ((hT12).tr a2))
      · refine aw_iload_n (pc' := 34) eX7_any_33 rfl rfl ?_
        refine aw_if_eq (pc' := 37) (tgt := 41) eX7_any_34 rfl (by decide) (fun c_34 => ?_) (fun c_34 => ?_)
        · refine aw_iconst (pc' := 42) (v := 0) eX7_any_41 rfl (by decide) ?_
          refine aw_istore_n (pc' := 43) eX7_any_42 rfl (by decide) ?_
          dsimp only [zst, zst2, zcut]
          refine aw_goto eX7_any_43 (by decide) (tgt := 5) ?_
          have mm := pX_mon (R := U.1 7) (n := n) (L := U.1 9) (N := U.1 8) g 1 k false (p.1 + 1, p.2) (by show p.1 + 1 ≤ n; omega)
          have g30 : b = false := by (have z := c_30; (try simp only [zb_eq0, Bool.not_eq_false, Bool.not_eq_true, decide_eq_true_eq, decide_eq_false_iff_not, Decidable.not_not] at z); exact z)
          have g34 : (px U n g 1 k false (p.1 + 1, p.2)).1 = false := by (have z := c_34; (try simp only [zb_eq0, Bool.not_eq_false, Bool.not_eq_true, decide_eq_true_eq, decide_eq_false_iff_not, Decidable.not_not] at z); exact z)
          have e : px U n (g + 1) 4 k b p = px U n g 4 k (b || (px U n g 1 k false (p.1 + 1, p.2)).1) (px U n g 1 k false (p.1 + 1, p.2)).2 := by
            show pX _ _ _ _ (g + 1) 4 k b p = _
            rw [pX]; exact if_pos g11
          rw [e] at hQ
          have m1 : p.1 + 1 ≤ (px U n g 1 k false (p.1 + 1, p.2)).2.1 := mm.1
          refine ihg (by omega) (b || (px U n g 1 k false (p.1 + 1, p.2)).1) 0 _ (px U n g 1 k false (p.1 + 1, p.2)).2 _ mm.2 (by omega) (by simp [zb, g30, g34]) hM7 (fun h' a1 a2 => hQ h' a1 ((hT12).tr a2))
        · refine aw_iconst (pc' := 38) (v := 1) eX7_any_37 rfl (by decide) ?_
          refine aw_goto eX7_any_38 (by decide) (tgt := 42) ?_
          refine aw_istore_n (pc' := 43) eX7_any_42 rfl (by decide) ?_
          dsimp only [zst, zst2, zcut]
          refine aw_goto eX7_any_43 (by decide) (tgt := 5) ?_
          have mm := pX_mon (R := U.1 7) (n := n) (L := U.1 9) (N := U.1 8) g 1 k false (p.1 + 1, p.2) (by show p.1 + 1 ≤ n; omega)
          have g30 : b = false := by (have z := c_30; (try simp only [zb_eq0, Bool.not_eq_false, Bool.not_eq_true, decide_eq_true_eq, decide_eq_false_iff_not, Decidable.not_not] at z); exact z)
          have g34 : (px U n g 1 k false (p.1 + 1, p.2)).1 = true := by (have z := c_34; (try simp only [zb_eq0, Bool.not_eq_false, Bool.not_eq_true, decide_eq_true_eq, decide_eq_false_iff_not, Decidable.not_not] at z); exact z)
          have e : px U n (g + 1) 4 k b p = px U n g 4 k (b || (px U n g 1 k false (p.1 + 1, p.2)).1) (px U n g 1 k false (p.1 + 1, p.2)).2 := by
            show pX _ _ _ _ (g + 1) 4 k b p = _
            rw [pX]; exact if_pos g11
          rw [e] at hQ
          have m1 : p.1 + 1 ≤ (px U n g 1 k false (p.1 + 1, p.2)).2.1 := mm.1
          refine ihg (by omega) (b || (px U n g 1 k false (p.1 + 1, p.2)).1) 1 _ (px U n g 1 k false (p.1 + 1, p.2)).2 _ mm.2 (by omega) (by simp [zb, g30, g34]) hM7 (fun h' a1 a2 => hQ h' a1 ((hT12).tr a2))
theorem step_E {n f : Nat} (hn : pOk U n) (ih : ∀ g, g < f + 1 → BC l G u U n g) : EC l G u U n (f + 1) := by
  intro d k p h hM hk hp hf hd
  have n100 := hn.2
  refine ct_of (lv := [some (.ref u), none, none]) (by decide +kernel) rfl (fun z => by cases z) (fun _ => rfl) (fun _ => Nat.le_of_ble_eq_true rfl) ?_
  have mm := pX_mon (R := U.1 7) (n := n) (L := U.1 9) (N := U.1 8) f 1 k false p hp
  have m1 : p.1 ≤ (px U n f 1 k false p).2.1 := mm.1
  have e : px U n (f + 1) 3 k false p = px U n f 4 k (px U n f 1 k false p).1 (px U n f 1 k false p).2 := by
    show pX _ _ _ _ (f + 1) 3 k false p = _
    rw [pX]
  rw [e]
  refine aw_aload_n (pc' := 1) eX7_any_0 rfl rfl trivial ?_
  refine aw_callv (pc' := 4) (nn := 0) ((ih f (by omega)) (d - 1) k p _ hM hk hp (by omega) (by omega)) eX7_any_1 rfl ⟨q941, q944, q62⟩ q943 q32 ⟨rfl, by decide +kernel, by decide +kernel, by decide +kernel⟩ rfl (by rw [hM.2.1]; exact ⟨rfl, rfl⟩) rfl ⟨by omega, by decide⟩ ⟨by omega, by omega⟩ rfl (Nat.le_of_ble_eq_true rfl) (fun v3 h4 hq5 => ?_)
  obtain ⟨rfl, hM1, hs2⟩ := hq5
  dsimp only [Option.toList, List.cons_append, List.nil_append]
  refine aw_istore_n (pc' := 5) eX7_any_4 rfl (by decide) ?_
  dsimp only [zst, zst2, zcut]
  exact lp_X7_any hn hk hd (f := f) (fun g hg => ih g (by omega)) f (Nat.le_refl f) (px U n f 1 k false p).1 _ _ (px U n f 1 k false p).2 _ mm.2 (by omega) rfl hM1 (fun h' a1 a2 => ⟨rfl, a1, (hs2).tr a2⟩)
theorem parse_all {n : Nat} (hn : pOk U n) : ∀ f, FC l G u U n f ∧ BC l G u U n f ∧ EC l G u U n f := by
  intro f
  induction f using Nat.strongRecOn with
  | _ f ih =>
    cases f with
    | zero => exact ⟨fun d k p h _ _ _ hf _ => absurd hf (by omega), fun d k p h _ _ _ hf _ => absurd hf (by omega), fun d k p h _ _ _ hf _ => absurd hf (by omega)⟩
    | succ f => exact ⟨step_F hn (ih f (by omega)), step_B hn (fun g hg => (ih g hg).1), step_E hn (fun g hg => (ih g hg).2.1)⟩
end M9
