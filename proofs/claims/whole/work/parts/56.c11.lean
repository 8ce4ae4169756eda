/-! the class: E, by how deep one stands -/
section C11
variable {l : Launch} {G : GT} {e n d k : Nat} {h : Hp} {Q : Option Value → Hp → Prop} {R : Nat → Int32} {a : Nat} {b : Bool} {ss : List Int32} {r : Int32}
/-- in the midst of E: a0, ss0 its beginning; a, b, ss now; whether one waits; what waits, what is gathered -/
def InE (n : Nat) (R : Nat → Int32) (k a0 : Nat) (b0 : Bool) (ss0 : List Int32) (a : Nat) (b : Bool) (ss : List Int32) (wt : Bool) (O V : (Nat → Int32) → Bool) : Prop :=
  a ≤ n ∧ ss.length + wt.toNat + a0 ≤ a + ss0.length ∧ (b = true → ∃ c, ss = ss0 ++ c ∧ EvL c wt O V (1 + 2 * (4 - k) + 2)) ∧ ∀ N, PX R n mLe N 3 k false (a0, b0) = PX R n mLe N 4 k ((wt && O N) || (PX R n mLe N 2 k (V N) (a, b)).1) (PX R n mLe N 2 k (V N) (a, b)).2
theorem InE.start {a0 : Nat} {b0 : Bool} {ss0 ss1 : List Int32} (hn : n ≤ 100) (ha : a0 ≤ n) (hs : SO ss0 ss1 a0 (PX R n mLe N0 0 k false (a0, b0)).2.1 (PX R n mLe N0 0 k false (a0, b0)).2.2 (fun N => (PX R n mLe N 0 k false (a0, b0)).1) (1 + 2 * (4 - k))) : InE n R k a0 b0 ss0 (PX R n mLe N0 0 k false (a0, b0)).2.1 (PX R n mLe N0 0 k false (a0, b0)).2.2 ss1 false (fun _ => false) (fun N => (PX R n mLe N 0 k false (a0, b0)).1) := by
  refine ⟨(PX_mon (show (a0, b0).1 ≤ n from ha)).2, by have := hs.1; simp only [Bool.toNat_false]; omega, fun z => ?_, fun N => ?_⟩
  · obtain ⟨c, e1, e2⟩ := hs.2 z
    exact ⟨c, e1, e2.toL⟩
  · rw [PX3 hn (show (a0, b0).1 ≤ n from ha), PX1 hn (show (a0, b0).1 ≤ n from ha), PX_pos (N := N) (N' := N0) (b' := false) (by omega)]
    simp only [Bool.false_and, Bool.false_or]
theorem InE.fin {a0 : Nat} {b0 : Bool} {ss0 : List Int32} {wt : Bool} {O V : (Nat → Int32) → Bool} (hn : n ≤ 100) (hI : InE n R k a0 b0 ss0 a b ss wt O V) (h38 : ¬ pAt R n (a, b) 38 = true) (h124 : ¬ pAt R n (a, b) 124 = true) : ∀ N, PX R n mLe N 3 k false (a0, b0) = ((wt && O N) || V N, (a, b)) := fun N => by
  have ha : (a, b).1 ≤ n := hI.1
  rw [hI.2.2.2 N, PX2 hn ha, if_neg h38, PX4 hn ha, if_neg h124]
theorem InE.and {a0 : Nat} {b0 : Bool} {ss0 ss1 : List Int32} {wt : Bool} {O V : (Nat → Int32) → Bool} (hn : n ≤ 100) (hI : InE n R k a0 b0 ss0 a b ss wt O V) (h38 : pAt R n (a, b) 38 = true)
    (hs : SO ss ss1 (a + 1) (PX R n mLe N0 0 k false (a + 1, b)).2.1 (PX R n mLe N0 0 k false (a + 1, b)).2.2 (fun N => (PX R n mLe N 0 k false (a + 1, b)).1) (1 + 2 * (4 - k))) :
    InE n R k a0 b0 ss0 (PX R n mLe N0 0 k false (a + 1, b)).2.1 (PX R n mLe N0 0 k false (a + 1, b)).2.2 (if (PX R n mLe N0 0 k false (a + 1, b)).2.2 = true then ss1 ++ [enc 4 0 0] else ss1) wt O (fun N => V N && (PX R n mLe N 0 k false (a + 1, b)).1) := by
  have hb : b = true := by simp [pAt] at h38; exact h38.1.1
  have hl := pAt_lt h38
  have h1 : (a + 1, b).1 ≤ n := hl
  obtain ⟨i1, i2, i3, i4⟩ := hI
  have ha : (a, b).1 ≤ n := i1
  refine ⟨(PX_mon h1).2, ?_, fun z => ?_, fun N => ?_⟩
  · have := hs.1
    split
    · rw [List.length_append, List.length_singleton]; omega
    · omega
  · obtain ⟨c, e1, e2⟩ := i3 hb
    obtain ⟨c1, e3, e4⟩ := hs.2 z
    exact ⟨c ++ c1 ++ [enc 4 0 0], by rw [if_pos z, e3, e1, List.append_assoc, List.append_assoc, List.append_assoc], e2.and e4⟩
  · rw [i4 N, PX2 hn ha, if_pos h38, PX_pos (N := N) (N' := N0) (t := 0) (b' := false) (by omega)]
theorem InE.or {a0 : Nat} {b0 : Bool} {ss0 ss1 : List Int32} {wt : Bool} {O V : (Nat → Int32) → Bool} (hn : n ≤ 100) (hI : InE n R k a0 b0 ss0 a b ss wt O V) (h38 : ¬ pAt R n (a, b) 38 = true) (h124 : pAt R n (a, b) 124 = true)
    (hs : SO (if wt = true then ss ++ [enc 5 0 0] else ss) ss1 (a + 1) (PX R n mLe N0 0 k false (a + 1, b)).2.1 (PX R n mLe N0 0 k false (a + 1, b)).2.2 (fun N => (PX R n mLe N 0 k false (a + 1, b)).1) (1 + 2 * (4 - k))) :
    InE n R k a0 b0 ss0 (PX R n mLe N0 0 k false (a + 1, b)).2.1 (PX R n mLe N0 0 k false (a + 1, b)).2.2 ss1 true (fun N => (wt && O N) || V N) (fun N => (PX R n mLe N 0 k false (a + 1, b)).1) := by
  have hb : b = true := by simp [pAt] at h124; exact h124.1.1
  have hl := pAt_lt h124
  have h1 : (a + 1, b).1 ≤ n := hl
  obtain ⟨i1, i2, i3, i4⟩ := hI
  have ha : (a, b).1 ≤ n := i1
  refine ⟨(PX_mon h1).2, ?_, fun z => ?_, fun N => ?_⟩
  · have h2 := hs.1
    cases wt
    · simp only [Bool.false_eq_true, if_false] at h2
      simp only [Bool.toNat_false] at i2
      simp only [Bool.toNat_true]
      omega
    · simp only [if_true, List.length_append, List.length_singleton] at h2
      simp only [Bool.toNat_true] at i2 ⊢
      omega
  · obtain ⟨c, e1, e2⟩ := i3 hb
    obtain ⟨c1, e3, e4⟩ := hs.2 z
    refine ⟨(if wt = true then c ++ [enc 5 0 0] else c) ++ c1, ?_, e2.or e4⟩
    rw [e3, e1]
    split
    · simp only [List.append_assoc]
    · simp only [List.append_assoc]
  · rw [i4 N, PX2 hn ha, if_neg h38, PX4 hn ha, if_pos h124, PX1 hn h1, PX_pos (N := N) (N' := N0) (t := 0) (b' := false) (by omega)]
    simp only [Bool.true_and]
theorem InE.so {a0 : Nat} {b0 : Bool} {ss0 : List Int32} {wt : Bool} {O V : (Nat → Int32) → Bool} (hn : n ≤ 100) (hI : InE n R k a0 b0 ss0 a b ss wt O V) (h38 : ¬ pAt R n (a, b) 38 = true) (h124 : ¬ pAt R n (a, b) 124 = true) {ss2 : List Int32} (h2 : ss2 = if wt = true then (if b = true then ss ++ [enc 5 0 0] else ss) else ss) : SO ss0 ss2 a0 (PX R n mLe N0 3 k false (a0, b0)).2.1 (PX R n mLe N0 3 k false (a0, b0)).2.2 (fun N => (PX R n mLe N 3 k false (a0, b0)).1) (3 + 2 * (4 - k)) := by
  have eF := hI.fin hn h38 h124
  simp only [eF]
  obtain ⟨i1, i2, i3, i4⟩ := hI
  subst h2
  refine ⟨?_, fun z => ?_⟩
  · cases wt
    · simp only [Bool.false_eq_true, if_false]
      simp only [Bool.toNat_false] at i2
      omega
    · simp only [if_true]
      simp only [Bool.toNat_true] at i2
      split
      · rw [List.length_append, List.length_singleton]; omega
      · omega
  · have z : b = true := z
    obtain ⟨c, e1, e2⟩ := i3 z
    refine ⟨if wt = true then c ++ [enc 5 0 0] else c, ?_, e2.fin.le (by omega)⟩
    rw [if_pos z, e1]
    split
    · rw [List.append_assoc]
    · rfl

theorem pAt_ge {c : Int32} (h : ¬ a < n) : ¬ pAt R n (a, b) c = true := fun z => h (pAt_lt z)
theorem pAt_nb {c : Int32} (h : b = false) : ¬ pAt R n (a, b) c = true := fun z => Bool.false_ne_true ((pAt_no (p := (a, b)) h).symm.trans z)
theorem lpE {a0 : Nat} {b0 : Bool} {ss0 : List Int32} (hn : n ≤ 100) (hA : RA R n) (hl0 : ss0.length ≤ a0) (hk : k ≤ 4) (ihS : SgC l G e n R k) (hd : 15 ≤ d + 2 * k) {h0 : Hp} (hX : ∀ a b ss q wt O V x4 h', RdAt h' e n R a b ss r → InE n R k a0 b0 ss0 a b ss wt O V → ¬ pAt R n (a, b) 38 = true → ¬ pAt R n (a, b) 124 = true → Same e 3 h0 h' → AW l G mX0_either d 0 0 Q 0 0 h' [some (.ref e), some (.int (nI k)), some (.int (zb wt)), some (.int (nI q)), x4] [] 120) : ∀ (g a : Nat) (b : Bool) (ss : List Int32) (q : Nat) (wt : Bool) (O V : (Nat → Int32) → Bool) (y2 y3 : Int32) (x4 : Option Value) (h : Hp), g = n - a → q ≤ a → y2 = zb wt → y3 = nI q → RdAt h e n R a b ss r → InE n R k a0 b0 ss0 a b ss wt O V → Same e 3 h0 h → AW l G mX0_either d 0 0 Q 0 0 h [some (.ref e), some (.int (nI k)), some (.int y2), some (.int y3), x4] [] 9 := by
  intro g
  induction g using Nat.strongRecOn with
  | _ g ih =>
    intro a b ss q wt O V y2 y3 x4 h hg hq hy2 hy3 hR hI hs
    subst hy2 hy3 hg
    have hIa := hI.1
    have hIl := hI.2.1
    refine aw_iload_n (pc' := 10) eX0_either_9 rfl rfl ?_
    refine aw_bipush (pc' := 12) (v := 100) eX0_either_10 rfl (by decide) ?_
    refine aw_icmp_ge (pc' := 15) (tgt := 120) eX0_either_12 rfl (by decide) (fun c_12 => ?_) (fun c_12 => ?_)
    · have n38 : ¬ pAt R n (a, b) 38 = true := pAt_ge (by have := ge_nI (a := q) (b := 100) (by omega) (by omega) c_12; omega)
      have n124 : ¬ pAt R n (a, b) 124 = true := pAt_ge (by have := ge_nI (a := q) (b := 100) (by omega) (by omega) c_12; omega)
      exact hX a b ss q wt O V _ _ hR hI n38 n124 hs
    · refine aw_aload_n (pc' := 16) eX0_either_15 rfl rfl trivial ?_
      refine aw_Oget (pc' := 19) (ci := 0) (kf := 4) (N := 7) (.int (zb b)) (hR).1 eX0_either_16 rfl rfl rfl inX0 (by decide) q187 rfl ?_
      refine aw_if_eq (pc' := 22) (tgt := 120) eX0_either_19 rfl (by decide) (fun c_19 => ?_) (fun c_19 => ?_)
      · have n38 : ¬ pAt R n (a, b) 38 = true := pAt_nb (zb_eq0.mp c_19)
        have n124 : ¬ pAt R n (a, b) 124 = true := pAt_nb (zb_eq0.mp c_19)
        exact hX a b ss q wt O V _ _ hR hI n38 n124 hs
      · refine aw_aload_n (pc' := 23) eX0_either_22 rfl rfl trivial ?_
        refine aw_callv (pc' := 26) (nn := 0) (c_X0_sign (d := d - 1) hR hn hI.1 (by omega)) eX0_either_23 rfl ⟨q424, q427, q59⟩ q426 q8 ⟨rfl, by decide +kernel, by decide +kernel, by decide +kernel⟩ rfl (hR).ob rfl ⟨by omega, by decide⟩ ⟨by omega, by omega⟩ rfl (Nat.le_of_ble_eq_true rfl) (fun v1 h2 hq3 => ?_)
        obtain ⟨rfl, rfl⟩ := hq3
        dsimp only [Option.toList, List.cons_append, List.nil_append]
        refine aw_bipush (pc' := 28) (v := 38) eX0_either_26 rfl (by decide) ?_
        refine aw_icmp_eq (pc' := 31) (tgt := 40) eX0_either_28 rfl (by decide) (fun c_28 => ?_) (fun c_28 => ?_)
        · obtain rfl : b = true := zb_ne0.mp c_19
          have p38 : pAt R n (a, true) 38 = true := yes_at hA (c := 38) (by omega) rfl c_28
          refine aw_aload_n (pc' := 41) eX0_either_40 rfl rfl trivial ?_
          refine aw_callv (pc' := 44) (nn := 0) (c_X0_sign (d := d - 1) hR hn hI.1 (by omega)) eX0_either_41 rfl ⟨q424, q427, q59⟩ q426 q8 ⟨rfl, by decide +kernel, by decide +kernel, by decide +kernel⟩ rfl (hR).ob rfl ⟨by omega, by decide⟩ ⟨by omega, by omega⟩ rfl (Nat.le_of_ble_eq_true rfl) (fun v4 h5 hq6 => ?_)
          obtain ⟨rfl, rfl⟩ := hq6
          dsimp only [Option.toList, List.cons_append, List.nil_append]
          refine aw_bipush (pc' := 46) (v := 38) eX0_either_44 rfl (by decide) ?_
          refine aw_icmp_ne (pc' := 49) (tgt := 53) eX0_either_46 rfl (by decide) (fun c_46 => ?_) (fun c_46 => ?_)
          · exact absurd c_28 c_46
          · refine aw_iconst (pc' := 50) (v := 1) eX0_either_49 rfl (by decide) ?_
            refine aw_goto eX0_either_50 (by decide) (tgt := 54) ?_
            refine aw_istore (pc' := 56) eX0_either_54 rfl (by decide) ?_
            dsimp only [zst, zst2, zcut]
            refine aw_aload_n (pc' := 57) eX0_either_56 rfl rfl trivial ?_
            refine aw_dup (pc' := 58) eX0_either_57 rfl rfl ?_
            refine aw_Oget (pc' := 61) (ci := 0) (kf := 3) (N := 7) (.int (nI (a))) (hR).1 eX0_either_58 rfl rfl rfl inX0 (by decide) q186 rfl ?_
            refine aw_iconst (pc' := 62) (v := 1) eX0_either_61 rfl (by decide) ?_
            refine aw_iadd (pc' := 63) eX0_either_62 rfl ?_
            refine aw_Rat (pc' := 66) (a + 1) hR eX0_either_63 rfl q186 (nI_1 (a)) (fun h9 hR7 hs8 => ?_)
            refine aw_iload (pc' := 68) eX0_either_66 rfl rfl ?_
            refine aw_if_ne (pc' := 71) (tgt := 82) eX0_either_68 rfl (by decide) (fun c_68 => ?_) (fun c_68 => ?_)
            · refine aw_iload_n (pc' := 83) eX0_either_82 rfl rfl ?_
              refine aw_if_ne (pc' := 86) (tgt := 91) eX0_either_83 rfl (by decide) (fun c_83 => ?_) (fun c_83 => ?_)
              · refine aw_iconst (pc' := 92) (v := 1) eX0_either_91 rfl (by decide) ?_
                refine aw_goto eX0_either_92 (by decide) (tgt := 96) ?_
                refine aw_istore_n (pc' := 97) eX0_either_96 rfl (by decide) ?_
                dsimp only [zst, zst2, zcut]
                have hl9 : ss.length ≤ a + 1 := by have := hI.2.1; omega
                refine aw_aload_n (pc' := 98) eX0_either_97 rfl rfl trivial ?_
                refine aw_iload_n (pc' := 99) eX0_either_98 rfl rfl ?_
                refine aw_callv (pc' := 102) (nn := 1) (ihS (d - 1) (a + 1) true _ r _ hR7 (pAt_lt p38) hl9 (by omega)) eX0_either_99 rfl ⟨q483, q486, q59⟩ q485 q12 ⟨rfl, by decide +kernel, by decide +kernel, by decide +kernel⟩ rfl (hR7).ob rfl ⟨by omega, by decide⟩ ⟨by omega, by omega⟩ rfl (Nat.le_of_ble_eq_true rfl) (fun v12 h13 hq14 => ?_)
                obtain ⟨rfl, ss1, hR10, hso, hs11⟩ := hq14
                have hT15 := hs8.tr hs11
                dsimp only [Option.toList, List.cons_append, List.nil_append]
                refine aw_iload (pc' := 104) eX0_either_102 rfl rfl ?_
                refine aw_if_eq (pc' := 107) (tgt := 114) eX0_either_104 rfl (by decide) (fun c_104 => ?_) (fun c_104 => ?_)
                · exact absurd c_104 (by decide)
                · refine aw_aload_n (pc' := 108) eX0_either_107 rfl rfl trivial ?_
                  refine aw_iconst (pc' := 109) (v := 4) eX0_either_108 rfl (by decide) ?_
                  refine aw_iconst (pc' := 110) (v := 0) eX0_either_109 rfl (by decide) ?_
                  refine aw_iconst (pc' := 111) (v := 0) eX0_either_110 rfl (by decide) ?_
                  refine aw_callv (pc' := 114) (nn := 3) (c_X0_step (d := d - 1) hR10 (fun _ => by have := hso.1; have := hI.2.1; have := (PX_mon (R := R) (L := mLe) (N := N0) (t := 0) (k := k) (b := false) (show (a + 1, true).1 ≤ n from pAt_lt p38)).2; omega) (by have := hso.1; have := hI.2.1; have := (PX_mon (R := R) (L := mLe) (N := N0) (t := 0) (k := k) (b := false) (show (a + 1, true).1 ≤ n from pAt_lt p38)).2; omega) 4 0 0 (by omega)) eX0_either_111 rfl ⟨q550, q553, q59⟩ q552 q14 ⟨rfl, by decide +kernel, by decide +kernel, by decide +kernel⟩ rfl (hR10).ob rfl ⟨by omega, by decide⟩ ⟨by omega, by omega⟩ rfl (Nat.le_of_ble_eq_true rfl) (fun v18 h19 hq20 => ?_)
                  obtain ⟨rfl, hR16, hs17⟩ := hq20
                  have hT21 := hT15.tr hs17
                  dsimp only [Option.toList, List.cons_append, List.nil_append]
                  refine aw_iinc (pc' := 117) eX0_either_114 rfl rfl rfl (by decide) ?_
                  dsimp only [zst, zst2, zcut]
                  refine aw_goto eX0_either_117 (by decide) (tgt := 9) ?_
                  have hI2 := hI.and hn p38 hso
                  refine ih (n - (PX R n mLe N0 0 k false (a + 1, true)).2.1) (by have := (PX_mon (R := R) (L := mLe) (N := N0) (t := 0) (k := k) (b := false) (show (a + 1, true).1 ≤ n from pAt_lt p38)).1; have : a + 1 ≤ (PX R n mLe N0 0 k false (a + 1, true)).2.1 := this; have := pAt_lt p38; have : a < n := this; omega) _ _ _ (q + 1) wt O _ _ _ _ _ rfl (by have := (PX_mon (R := R) (L := mLe) (N := N0) (t := 0) (k := k) (b := false) (show (a + 1, true).1 ≤ n from pAt_lt p38)).1; have : a + 1 ≤ (PX R n mLe N0 0 k false (a + 1, true)).2.1 := this; omega) (zb_eq1.mpr (zb_ne0.mp c_83)).symm (nI_inc q) hR16 hI2 (hs.tr hT21)
              · refine aw_iload (pc' := 88) eX0_either_86 rfl rfl ?_
                refine aw_if_ne (pc' := 91) (tgt := 95) eX0_either_88 rfl (by decide) (fun c_88 => ?_) (fun c_88 => ?_)
                · refine aw_iconst (pc' := 96) (v := 0) eX0_either_95 rfl (by decide) ?_
                  refine aw_istore_n (pc' := 97) eX0_either_96 rfl (by decide) ?_
                  dsimp only [zst, zst2, zcut]
                  have hl9 : ss.length ≤ a + 1 := by have := hI.2.1; omega
                  refine aw_aload_n (pc' := 98) eX0_either_97 rfl rfl trivial ?_
                  refine aw_iload_n (pc' := 99) eX0_either_98 rfl rfl ?_
                  refine aw_callv (pc' := 102) (nn := 1) (ihS (d - 1) (a + 1) true _ r _ hR7 (pAt_lt p38) hl9 (by omega)) eX0_either_99 rfl ⟨q483, q486, q59⟩ q485 q12 ⟨rfl, by decide +kernel, by decide +kernel, by decide +kernel⟩ rfl (hR7).ob rfl ⟨by omega, by decide⟩ ⟨by omega, by omega⟩ rfl (Nat.le_of_ble_eq_true rfl) (fun v24 h25 hq26 => ?_)
                  obtain ⟨rfl, ss1, hR22, hso, hs23⟩ := hq26
                  have hT27 := hs8.tr hs23
                  dsimp only [Option.toList, List.cons_append, List.nil_append]
                  refine aw_iload (pc' := 104) eX0_either_102 rfl rfl ?_
                  refine aw_if_eq (pc' := 107) (tgt := 114) eX0_either_104 rfl (by decide) (fun c_104 => ?_) (fun c_104 => ?_)
                  · exact absurd c_104 (by decide)
                  · refine aw_aload_n (pc' := 108) eX0_either_107 rfl rfl trivial ?_
                    refine aw_iconst (pc' := 109) (v := 4) eX0_either_108 rfl (by decide) ?_
                    refine aw_iconst (pc' := 110) (v := 0) eX0_either_109 rfl (by decide) ?_
                    refine aw_iconst (pc' := 111) (v := 0) eX0_either_110 rfl (by decide) ?_
                    refine aw_callv (pc' := 114) (nn := 3) (c_X0_step (d := d - 1) hR22 (fun _ => by have := hso.1; have := hI.2.1; have := (PX_mon (R := R) (L := mLe) (N := N0) (t := 0) (k := k) (b := false) (show (a + 1, true).1 ≤ n from pAt_lt p38)).2; omega) (by have := hso.1; have := hI.2.1; have := (PX_mon (R := R) (L := mLe) (N := N0) (t := 0) (k := k) (b := false) (show (a + 1, true).1 ≤ n from pAt_lt p38)).2; omega) 4 0 0 (by omega)) eX0_either_111 rfl ⟨q550, q553, q59⟩ q552 q14 ⟨rfl, by decide +kernel, by decide +kernel, by decide +kernel⟩ rfl (hR22).ob rfl ⟨by omega, by decide⟩ ⟨by omega, by omega⟩ rfl (Nat.le_of_ble_eq_true rfl) (fun v30 h31 hq32 => ?_)
                    obtain ⟨rfl, hR28, hs29⟩ := hq32
                    have hT33 := hT27.tr hs29
                    dsimp only [Option.toList, List.cons_append, List.nil_append]
                    refine aw_iinc (pc' := 117) eX0_either_114 rfl rfl rfl (by decide) ?_
                    dsimp only [zst, zst2, zcut]
                    refine aw_goto eX0_either_117 (by decide) (tgt := 9) ?_
                    have hI2 := hI.and hn p38 hso
                    refine ih (n - (PX R n mLe N0 0 k false (a + 1, true)).2.1) (by have := (PX_mon (R := R) (L := mLe) (N := N0) (t := 0) (k := k) (b := false) (show (a + 1, true).1 ≤ n from pAt_lt p38)).1; have : a + 1 ≤ (PX R n mLe N0 0 k false (a + 1, true)).2.1 := this; have := pAt_lt p38; have : a < n := this; omega) _ _ _ (q + 1) wt O _ _ _ _ _ rfl (by have := (PX_mon (R := R) (L := mLe) (N := N0) (t := 0) (k := k) (b := false) (show (a + 1, true).1 ≤ n from pAt_lt p38)).1; have : a + 1 ≤ (PX R n mLe N0 0 k false (a + 1, true)).2.1 := this; omega) c_83.symm (nI_inc q) hR28 hI2 (hs.tr hT33)
                · exact absurd c_88 (by decide)
            · exact absurd c_68 (by decide)
        · refine aw_aload_n (pc' := 32) eX0_either_31 rfl rfl trivial ?_
          refine aw_callv (pc' := 35) (nn := 0) (c_X0_sign (d := d - 1) hR hn hI.1 (by omega)) eX0_either_32 rfl ⟨q424, q427, q59⟩ q426 q8 ⟨rfl, by decide +kernel, by decide +kernel, by decide +kernel⟩ rfl (hR).ob rfl ⟨by omega, by decide⟩ ⟨by omega, by omega⟩ rfl (Nat.le_of_ble_eq_true rfl) (fun v34 h35 hq36 => ?_)
          obtain ⟨rfl, rfl⟩ := hq36
          dsimp only [Option.toList, List.cons_append, List.nil_append]
          refine aw_bipush (pc' := 37) (v := 124) eX0_either_35 rfl (by decide) ?_
          refine aw_icmp_ne (pc' := 40) (tgt := 120) eX0_either_37 rfl (by decide) (fun c_37 => ?_) (fun c_37 => ?_)
          · have n38 : ¬ pAt R n (a, b) 38 = true := (fun z => no_at hA (c := 38) (by omega) c_28 z)
            have n124 : ¬ pAt R n (a, b) 124 = true := (fun z => no_at hA (c := 124) (by omega) c_37 z)
            exact hX a b ss q wt O V _ _ hR hI n38 n124 hs
          · obtain rfl : b = true := zb_ne0.mp c_19
            have p38 : ¬ pAt R n (a, true) 38 = true := fun z => no_at hA (c := 38) (by omega) c_28 z
            have p124 : pAt R n (a, true) 124 = true := yes_at hA (c := 124) (by omega) rfl c_37
            refine aw_aload_n (pc' := 41) eX0_either_40 rfl rfl trivial ?_
            refine aw_callv (pc' := 44) (nn := 0) (c_X0_sign (d := d - 1) hR hn hI.1 (by omega)) eX0_either_41 rfl ⟨q424, q427, q59⟩ q426 q8 ⟨rfl, by decide +kernel, by decide +kernel, by decide +kernel⟩ rfl (hR).ob rfl ⟨by omega, by decide⟩ ⟨by omega, by omega⟩ rfl (Nat.le_of_ble_eq_true rfl) (fun v37 h38 hq39 => ?_)
            obtain ⟨rfl, rfl⟩ := hq39
            dsimp only [Option.toList, List.cons_append, List.nil_append]
            refine aw_bipush (pc' := 46) (v := 38) eX0_either_44 rfl (by decide) ?_
            refine aw_icmp_ne (pc' := 49) (tgt := 53) eX0_either_46 rfl (by decide) (fun c_46 => ?_) (fun c_46 => ?_)
            · refine aw_iconst (pc' := 54) (v := 0) eX0_either_53 rfl (by decide) ?_
              refine aw_istore (pc' := 56) eX0_either_54 rfl (by decide) ?_
              dsimp only [zst, zst2, zcut]
              refine aw_aload_n (pc' := 57) eX0_either_56 rfl rfl trivial ?_
              refine aw_dup (pc' := 58) eX0_either_57 rfl rfl ?_
              refine aw_Oget (pc' := 61) (ci := 0) (kf := 3) (N := 7) (.int (nI (a))) (hR).1 eX0_either_58 rfl rfl rfl inX0 (by decide) q186 rfl ?_
              refine aw_iconst (pc' := 62) (v := 1) eX0_either_61 rfl (by decide) ?_
              refine aw_iadd (pc' := 63) eX0_either_62 rfl ?_
              refine aw_Rat (pc' := 66) (a + 1) hR eX0_either_63 rfl q186 (nI_1 (a)) (fun h42 hR40 hs41 => ?_)
              refine aw_iload (pc' := 68) eX0_either_66 rfl rfl ?_
              refine aw_if_ne (pc' := 71) (tgt := 82) eX0_either_68 rfl (by decide) (fun c_68 => ?_) (fun c_68 => ?_)
              · exact absurd c_68 (by decide)
              · refine aw_iload_n (pc' := 72) eX0_either_71 rfl rfl ?_
                refine aw_if_eq (pc' := 75) (tgt := 82) eX0_either_72 rfl (by decide) (fun c_72 => ?_) (fun c_72 => ?_)
                · refine aw_iload_n (pc' := 83) eX0_either_82 rfl rfl ?_
                  refine aw_if_ne (pc' := 86) (tgt := 91) eX0_either_83 rfl (by decide) (fun c_83 => ?_) (fun c_83 => ?_)
                  · exact absurd c_72 c_83
                  · refine aw_iload (pc' := 88) eX0_either_86 rfl rfl ?_
                    refine aw_if_ne (pc' := 91) (tgt := 95) eX0_either_88 rfl (by decide) (fun c_88 => ?_) (fun c_88 => ?_)
                    · exact absurd c_88 (by decide)
                    · refine aw_iconst (pc' := 92) (v := 1) eX0_either_91 rfl (by decide) ?_
                      refine aw_goto eX0_either_92 (by decide) (tgt := 96) ?_
                      refine aw_istore_n (pc' := 97) eX0_either_96 rfl (by decide) ?_
                      dsimp only [zst, zst2, zcut]
                      have hl9 : ss.length ≤ a + 1 := by have := hI.2.1; omega
                      refine aw_aload_n (pc' := 98) eX0_either_97 rfl rfl trivial ?_
                      refine aw_iload_n (pc' := 99) eX0_either_98 rfl rfl ?_
                      refine aw_callv (pc' := 102) (nn := 1) (ihS (d - 1) (a + 1) true _ r _ hR40 (pAt_lt p124) hl9 (by omega)) eX0_either_99 rfl ⟨q483, q486, q59⟩ q485 q12 ⟨rfl, by decide +kernel, by decide +kernel, by decide +kernel⟩ rfl (hR40).ob rfl ⟨by omega, by decide⟩ ⟨by omega, by omega⟩ rfl (Nat.le_of_ble_eq_true rfl) (fun v45 h46 hq47 => ?_)
                      obtain ⟨rfl, ss1, hR43, hso, hs44⟩ := hq47
                      have hwt : wt = false := zb_eq0.mp c_72
                      subst hwt
                      have hT48 := hs41.tr hs44
                      dsimp only [Option.toList, List.cons_append, List.nil_append]
                      refine aw_iload (pc' := 104) eX0_either_102 rfl rfl ?_
                      refine aw_if_eq (pc' := 107) (tgt := 114) eX0_either_104 rfl (by decide) (fun c_104 => ?_) (fun c_104 => ?_)
                      · refine aw_iinc (pc' := 117) eX0_either_114 rfl rfl rfl (by decide) ?_
                        dsimp only [zst, zst2, zcut]
                        refine aw_goto eX0_either_117 (by decide) (tgt := 9) ?_
                        have hI2 := hI.or hn p38 p124 hso
                        refine ih (n - (PX R n mLe N0 0 k false (a + 1, true)).2.1) (by have := (PX_mon (R := R) (L := mLe) (N := N0) (t := 0) (k := k) (b := false) (show (a + 1, true).1 ≤ n from pAt_lt p124)).1; have : a + 1 ≤ (PX R n mLe N0 0 k false (a + 1, true)).2.1 := this; have := pAt_lt p124; have : a < n := this; omega) _ _ _ (q + 1) true _ _ _ _ _ _ rfl (by have := (PX_mon (R := R) (L := mLe) (N := N0) (t := 0) (k := k) (b := false) (show (a + 1, true).1 ≤ n from pAt_lt p124)).1; have : a + 1 ≤ (PX R n mLe N0 0 k false (a + 1, true)).2.1 := this; omega) rfl (nI_inc q) hR43 hI2 (hs.tr hT48)
                      · exact absurd c_104 (by decide)
                · have hl5 : ss.length < 100 := by
                    have h9 := hI.2.1
                    have := pAt_lt p124
                    have : a < n := this
                    rw [zb_ne0.mp c_72] at h9
                    simp only [Bool.toNat_true] at h9
                    omega
                  refine aw_aload_n (pc' := 76) eX0_either_75 rfl rfl trivial ?_
                  refine aw_iconst (pc' := 77) (v := 5) eX0_either_76 rfl (by decide) ?_
                  refine aw_iconst (pc' := 78) (v := 0) eX0_either_77 rfl (by decide) ?_
                  refine aw_iconst (pc' := 79) (v := 0) eX0_either_78 rfl (by decide) ?_
                  refine aw_callv (pc' := 82) (nn := 3) (c_X0_step (d := d - 1) hR40 (fun _ => hl5) (by omega) 5 0 0 (by omega)) eX0_either_79 rfl ⟨q550, q553, q59⟩ q552 q14 ⟨rfl, by decide +kernel, by decide +kernel, by decide +kernel⟩ rfl (hR40).ob rfl ⟨by omega, by decide⟩ ⟨by omega, by omega⟩ rfl (Nat.le_of_ble_eq_true rfl) (fun v51 h52 hq53 => ?_)
                  obtain ⟨rfl, hR49, hs50⟩ := hq53
                  have hT54 := hs41.tr hs50
                  dsimp only [Option.toList, List.cons_append, List.nil_append]
                  refine aw_iload_n (pc' := 83) eX0_either_82 rfl rfl ?_
                  refine aw_if_ne (pc' := 86) (tgt := 91) eX0_either_83 rfl (by decide) (fun c_83 => ?_) (fun c_83 => ?_)
                  · refine aw_iconst (pc' := 92) (v := 1) eX0_either_91 rfl (by decide) ?_
                    refine aw_goto eX0_either_92 (by decide) (tgt := 96) ?_
                    refine aw_istore_n (pc' := 97) eX0_either_96 rfl (by decide) ?_
                    dsimp only [zst, zst2, zcut]
                    have hl9 : (ss ++ [enc 5 0 0]).length ≤ a + 1 := by
                      have h9 := hI.2.1
                      rw [zb_ne0.mp c_72] at h9
                      simp only [Bool.toNat_true] at h9
                      rw [List.length_append, List.length_singleton]
                      omega
                    refine aw_aload_n (pc' := 98) eX0_either_97 rfl rfl trivial ?_
                    refine aw_iload_n (pc' := 99) eX0_either_98 rfl rfl ?_
                    refine aw_callv (pc' := 102) (nn := 1) (ihS (d - 1) (a + 1) true _ r _ hR49 (pAt_lt p124) hl9 (by omega)) eX0_either_99 rfl ⟨q483, q486, q59⟩ q485 q12 ⟨rfl, by decide +kernel, by decide +kernel, by decide +kernel⟩ rfl (hR49).ob rfl ⟨by omega, by decide⟩ ⟨by omega, by omega⟩ rfl (Nat.le_of_ble_eq_true rfl) (fun v57 h58 hq59 => ?_)
                    obtain ⟨rfl, ss1, hR55, hso, hs56⟩ := hq59
                    have hwt : wt = true := zb_ne0.mp c_72
                    subst hwt
                    have hT60 := hT54.tr hs56
                    dsimp only [Option.toList, List.cons_append, List.nil_append]
                    refine aw_iload (pc' := 104) eX0_either_102 rfl rfl ?_
                    refine aw_if_eq (pc' := 107) (tgt := 114) eX0_either_104 rfl (by decide) (fun c_104 => ?_) (fun c_104 => ?_)
                    · refine aw_iinc (pc' := 117) eX0_either_114 rfl rfl rfl (by decide) ?_
                      dsimp only [zst, zst2, zcut]
                      refine aw_goto eX0_either_117 (by decide) (tgt := 9) ?_
                      have hI2 := hI.or hn p38 p124 hso
                      refine ih (n - (PX R n mLe N0 0 k false (a + 1, true)).2.1) (by have := (PX_mon (R := R) (L := mLe) (N := N0) (t := 0) (k := k) (b := false) (show (a + 1, true).1 ≤ n from pAt_lt p124)).1; have : a + 1 ≤ (PX R n mLe N0 0 k false (a + 1, true)).2.1 := this; have := pAt_lt p124; have : a < n := this; omega) _ _ _ (q + 1) true _ _ _ _ _ _ rfl (by have := (PX_mon (R := R) (L := mLe) (N := N0) (t := 0) (k := k) (b := false) (show (a + 1, true).1 ≤ n from pAt_lt p124)).1; have : a + 1 ≤ (PX R n mLe N0 0 k false (a + 1, true)).2.1 := this; omega) rfl (nI_inc q) hR55 hI2 (hs.tr hT60)
                    · exact absurd c_104 (by decide)
                  · exact absurd c_83 c_72
            · exact absurd c_46 c_28
theorem endE {wt : Bool} {x3 : Int32} {x4 : Option Value} (hR : RdAt h e n R a b ss r) (hl9 : wt = true → ss.length < 100) (hl2 : ss.length < 1000) (hd : 2 ≤ d) {h0 : Hp} (hs : Same e 3 h0 h) (hQ : ∀ h' ss2, (ss2 = if wt = true then (if b = true then ss ++ [enc 5 0 0] else ss) else ss) → RdAt h' e n R a b ss2 r → Same e 3 h0 h' → Q none h') : AW l G mX0_either d 0 0 Q 0 0 h [some (.ref e), some (.int (nI k)), some (.int (zb wt)), some (.int x3), x4] [] 120 := by
  refine aw_iload_n (pc' := 121) eX0_either_120 rfl rfl ?_
  refine aw_if_eq (pc' := 124) (tgt := 131) eX0_either_121 rfl (by decide) (fun c_121 => ?_) (fun c_121 => ?_)
  · refine aw_ret (v := none) eX0_either_131 rfl (by omega) (by omega) rfl ?_
    have hwt : wt = false := zb_eq0.mp c_121
    subst hwt
    exact hQ _ ss (by rw [if_neg (by decide)]) hR hs
  · refine aw_aload_n (pc' := 125) eX0_either_124 rfl rfl trivial ?_
    refine aw_iconst (pc' := 126) (v := 5) eX0_either_125 rfl (by decide) ?_
    refine aw_iconst (pc' := 127) (v := 0) eX0_either_126 rfl (by decide) ?_
    refine aw_iconst (pc' := 128) (v := 0) eX0_either_127 rfl (by decide) ?_
    refine aw_callv (pc' := 131) (nn := 3) (c_X0_step (d := d - 1) hR (fun hb => hl9 (zb_ne0.mp c_121)) (by omega) 5 0 0 (by omega)) eX0_either_128 rfl ⟨q550, q553, q59⟩ q552 q14 ⟨rfl, by decide +kernel, by decide +kernel, by decide +kernel⟩ rfl (hR).ob rfl ⟨by omega, by decide⟩ ⟨by omega, by omega⟩ rfl (Nat.le_of_ble_eq_true rfl) (fun v3 h4 hq5 => ?_)
    obtain ⟨rfl, hR1, hs2⟩ := hq5
    dsimp only [Option.toList, List.cons_append, List.nil_append]
    refine aw_ret (v := none) eX0_either_131 rfl (by omega) (by omega) rfl ?_
    have hwt : wt = true := zb_ne0.mp c_121
    subst hwt
    exact hQ _ _ (by rw [if_pos rfl]; rfl) hR1 (hs.tr hs2)
theorem mk_EiC (hn : n ≤ 100) (hA : RA R n) (hk : k ≤ 4) (ihS : SgC l G e n R k) : EiC l G e n R k := by
  intro d a b ss r h hR ha hl hd
  refine ct_of (lv := [some (.ref e), some (.int (nI k)), none, none, none]) (by decide +kernel) rfl (fun z => by cases z) (fun _ => rfl) (fun _ => Nat.le_of_ble_eq_true rfl) ?_
  refine aw_iconst (pc' := 1) (v := 0) eX0_either_0 rfl (by decide) ?_
  refine aw_istore_n (pc' := 2) eX0_either_1 rfl (by decide) ?_
  dsimp only [zst, zst2, zcut]
  refine aw_aload_n (pc' := 3) eX0_either_2 rfl rfl trivial ?_
  refine aw_iload_n (pc' := 4) eX0_either_3 rfl rfl ?_
  refine aw_callv (pc' := 7) (nn := 1) (ihS (d - 1) a b ss r _ hR ha hl (by omega)) eX0_either_4 rfl ⟨q483, q486, q59⟩ q485 q12 ⟨rfl, by decide +kernel, by decide +kernel, by decide +kernel⟩ rfl (hR).ob rfl ⟨by omega, by decide⟩ ⟨by omega, by omega⟩ rfl (Nat.le_of_ble_eq_true rfl) (fun v3 h4 hq5 => ?_)
  obtain ⟨rfl, ss1, hR1, hso, hs2⟩ := hq5
  dsimp only [Option.toList, List.cons_append, List.nil_append]
  refine aw_iconst (pc' := 8) (v := 0) eX0_either_7 rfl (by decide) ?_
  refine aw_istore_n (pc' := 9) eX0_either_8 rfl (by decide) ?_
  dsimp only [zst, zst2, zcut]
  refine lpE hn hA hl hk ihS hd (fun a9 b9 ss9 q wt O V x4 h9 hR9 hI9 n38 n124 hs9 => ?_) (n - (PX R n mLe N0 0 k false (a, b)).2.1) _ _ _ 0 false (fun _ => false) _ _ _ _ _ rfl (by omega) rfl rfl hR1 (InE.start hn ha hso) hs2
  have i1 := hI9.1
  have i2 := hI9.2.1
  have eP : (PX R n mLe N0 3 k false (a, b)).2 = (a9, b9) := congrArg Prod.snd (hI9.fin hn n38 n124 N0)
  refine endE hR9 (fun hw => by rw [hw, Bool.toNat_true] at i2; omega) (by omega) (by omega) hs9 (fun h' ss2 e2 hR' hs' => ⟨rfl, ss2, ?_, hI9.so hn n38 n124 e2, hs'⟩)
  exact RdAt.cv hR' (congrArg Prod.fst eP).symm (congrArg Prod.snd eP).symm
theorem all_SE (hn : n ≤ 100) (hA : RA R n) : ∀ j k, j + k = 4 → SgC l G e n R k ∧ EiC l G e n R k := by
  intro j
  induction j using Nat.strongRecOn with
  | _ j ih =>
    intro k hk
    have hS : SgC l G e n R k := mk_SgC hn hA (by omega) (fun {i} hi => (ih (4 - (k + i + 1)) (by omega) (k + i + 1) (by omega)).2)
    exact ⟨hS, mk_EiC hn hA (by omega) hS⟩
theorem c_X0_either (hR : RdAt h e n R a b ss r) (hn : n ≤ 100) (hA : RA R n) (ha : a ≤ n) (hl : ss.length ≤ a) (hd : 15 ≤ d) : Ct l G mX0_either yX0_either d 0 0 [.ref e, .int (nI 0)] h (fun v h' => v = none ∧ ∃ ss', RdAt h' e n R (PX R n mLe N0 3 0 false (a, b)).2.1 (PX R n mLe N0 3 0 false (a, b)).2.2 ss' r ∧ SO ss ss' a (PX R n mLe N0 3 0 false (a, b)).2.1 (PX R n mLe N0 3 0 false (a, b)).2.2 (fun N => (PX R n mLe N 3 0 false (a, b)).1) 11 ∧ Same e 3 h h') :=
  (all_SE hn hA 4 0 rfl).2 d a b ss r h hR ha hl hd
end C11
