/-! the class: clauses; a sea is read -/
section C13
variable {l : Launch} {G : GT} {M : MT} {e n d k mc ms m pc pc' : Nat} {h : Hp} {Q : Option Value → Hp → Prop} {lv : LV} {st : List Value} {R : Nat → Int32} {a : Nat} {b : Bool} {ss : List Int32} {r : Int32}
/-- how far one is: q clauses more may come -/
def InR (R : Nat → Int32) (n q a : Nat) (b : Bool) (ss : List Int32) (r : Int32) : Prop := a ≤ n ∧ ss.length ≤ a ∧ (∀ N, ∃ s' r', pRA R n mLe N mWo = pRl R n mLe N mWo q ((a, b), s', r')) ∧ (b = true → ss.length + 3 ≤ a ∧ ∃ D : (Nat → Int32) → Int32, ∀ N, run N ss (0, nI 0) = (D N, nI 0) ∧ pRA R n mLe N mWo = pRl R n mLe N mWo q ((a, b), N 3 + D N, r))
theorem InR.start {C : CS} {ss' : List Int32} (hC : ClS R n [] ss' 0 30 C) : InR R n 9 C.1.1 C.1.2 ss' C.2.2 := by
  obtain ⟨h0, h1, h2, h3⟩ := hC
  refine ⟨by rw [h0]; exact pCl_le (Nat.zero_le n), by simpa using h2, fun N => ?_, fun z => ?_⟩
  · obtain ⟨s', e⟩ := h1 N (N 3)
    exact ⟨s', C.2.2, by rw [pRA, e]⟩
  · obtain ⟨h4, c, D, e1, e2⟩ := h3 z
    refine ⟨by simpa using h4, D, fun N => ?_⟩
    rw [List.nil_append] at e1
    subst e1
    refine ⟨by rw [(e2 N).1 0, Int32.zero_add], ?_⟩
    rw [pRA, (e2 N).2 (N 3)]
theorem InR.more {q : Nat} {C : CS} {ss' : List Int32} (hI : InR R n (q + 1) a true ss r) (h59 : pAt R n (a, true) 59 = true) (hC : ClS R n ss ss' (a + 1) r C) : InR R n q C.1.1 C.1.2 ss' C.2.2 := by
  obtain ⟨i1, i2, i3, i4⟩ := hI
  obtain ⟨h0, h1, h2, h3⟩ := hC
  have hl : a < n := pAt_lt h59
  have hu : ∀ N s r, pRl R n mLe N mWo (q + 1) ((a, true), s, r) = pRl R n mLe N mWo q (pCl R n mLe N mWo ((a + 1, true), s, r)) := fun N s r => by
    rw [pRl, if_pos h59]
  obtain ⟨i5, D, i6⟩ := i4 rfl
  refine ⟨by rw [h0]; exact pCl_le hl, by omega, fun N => ?_, fun z => ?_⟩
  · obtain ⟨s', e⟩ := h1 N (N 3 + D N)
    exact ⟨s', C.2.2, by rw [(i6 N).2, hu, e]⟩
  · obtain ⟨h4, c, D2, e1, e2⟩ := h3 z
    refine ⟨by omega, fun N => D N + D2 N, fun N => ?_⟩
    subst e1
    refine ⟨?_, ?_⟩
    · rw [run, List.foldl_append, show ss.foldl (fun x s => cA1 s N x) (0, nI 0) = _ from (i6 N).1]
      exact (e2 N).1 (D N)
    · rw [(i6 N).2, hu, (e2 N).2, Int32.add_assoc]
theorem InR.fin {q : Nat} (hI : InR R n q a b ss r) (hz : q = 0 ∨ ¬ pAt R n (a, b) 59 = true) : (∀ N, (pRA R n mLe N mWo).1 = (a, b)) ∧ (b = true → ss.length < 100 ∧ ∃ D : (Nat → Int32) → Int32, ∀ N, run N ss (0, nI 0) = (D N, nI 0) ∧ (pRA R n mLe N mWo).2 = (N 3 + D N, r)) ∨ 100 < n := by
  rcases Nat.lt_or_ge 100 n with z | z
  · exact Or.inr z
  · left
    obtain ⟨i1, i2, i3, i4⟩ := hI
    have hu : ∀ N s r, pRl R n mLe N mWo q ((a, b), s, r) = ((a, b), s, r) := fun N s r => by
      rcases hz with rfl | hz
      · rfl
      · cases q with
        | zero => rfl
        | succ q => rw [pRl, if_neg hz]
    refine ⟨fun N => ?_, fun hb => ?_⟩
    · obtain ⟨s', r', e⟩ := i3 N
      rw [e, hu]
    · obtain ⟨i5, D, i6⟩ := i4 hb
      exact ⟨by omega, D, fun N => ⟨(i6 N).1, by rw [(i6 N).2, hu]⟩⟩
theorem cAd_run (f N : Nat → Int32) (c : List Int32) (hc : ∀ i, i < c.length → f i = c.getD i 0) : cAd f N c.length = run N c (0, nI 0) := by
  have key : ∀ j, j ≤ c.length → cAd f N j = run N (c.take j) (0, nI 0) := fun j => by
    induction j with
    | zero => intro _; rfl
    | succ j ih =>
      intro hj
      have e : c[j]? = some (f j) := by
        rw [hc j (by omega)]
        simp [List.getD, List.getElem?_eq_getElem (show j < c.length by omega)]
      rw [cAd, ih (by omega), List.take_succ, e]
      unfold run
      rw [List.foldl_append]
      rfl
  rw [key c.length (Nat.le_refl _), List.take_length]

abbrev mX0_clause : MT := (RX0, cX0_clause, 3, none, false)
theorem eX0_clause_0 : decode mX0_clause.2.1 0 = .ok (.aload_n 0, 1) := by decide +kernel
theorem eX0_clause_1 : decode mX0_clause.2.1 1 = .ok (.invokevirtual 39, 3) := by decide +kernel
theorem eX0_clause_4 : decode mX0_clause.2.1 4 = .ok (.bipush 114, 2) := by decide +kernel
theorem eX0_clause_6 : decode mX0_clause.2.1 6 = .ok (.if_icmp .ne 18, 3) := by decide +kernel
theorem eX0_clause_9 : decode mX0_clause.2.1 9 = .ok (.aload_n 0, 1) := by decide +kernel
theorem eX0_clause_10 : decode mX0_clause.2.1 10 = .ok (.ldc 54, 2) := by decide +kernel
theorem eX0_clause_12 : decode mX0_clause.2.1 12 = .ok (.invokevirtual 56, 3) := by decide +kernel
theorem eX0_clause_15 : decode mX0_clause.2.1 15 = .ok (.aload_n 0, 1) := by decide +kernel
theorem eX0_clause_16 : decode mX0_clause.2.1 16 = .ok (.aload_n 0, 1) := by decide +kernel
theorem eX0_clause_17 : decode mX0_clause.2.1 17 = .ok (.invokevirtual 60, 3) := by decide +kernel
theorem eX0_clause_20 : decode mX0_clause.2.1 20 = .ok (.putfield 33, 3) := by decide +kernel
theorem eX0_clause_23 : decode mX0_clause.2.1 23 = .ok (.return_, 1) := by decide +kernel
theorem eX0_clause_24 : decode mX0_clause.2.1 24 = .ok (.aload_n 0, 1) := by decide +kernel
theorem eX0_clause_25 : decode mX0_clause.2.1 25 = .ok (.getfield 23, 3) := by decide +kernel
theorem eX0_clause_28 : decode mX0_clause.2.1 28 = .ok (.iconst 1, 1) := by decide +kernel
theorem eX0_clause_29 : decode mX0_clause.2.1 29 = .ok (.iadd, 1) := by decide +kernel
theorem eX0_clause_30 : decode mX0_clause.2.1 30 = .ok (.aload_n 0, 1) := by decide +kernel
theorem eX0_clause_31 : decode mX0_clause.2.1 31 = .ok (.getfield 19, 3) := by decide +kernel
theorem eX0_clause_34 : decode mX0_clause.2.1 34 = .ok (.if_icmp .ge 23, 3) := by decide +kernel
theorem eX0_clause_37 : decode mX0_clause.2.1 37 = .ok (.aload_n 0, 1) := by decide +kernel
theorem eX0_clause_38 : decode mX0_clause.2.1 38 = .ok (.getfield 9, 3) := by decide +kernel
theorem eX0_clause_41 : decode mX0_clause.2.1 41 = .ok (.aload_n 0, 1) := by decide +kernel
theorem eX0_clause_42 : decode mX0_clause.2.1 42 = .ok (.getfield 23, 3) := by decide +kernel
theorem eX0_clause_45 : decode mX0_clause.2.1 45 = .ok (.iconst 1, 1) := by decide +kernel
theorem eX0_clause_46 : decode mX0_clause.2.1 46 = .ok (.iadd, 1) := by decide +kernel
theorem eX0_clause_47 : decode mX0_clause.2.1 47 = .ok (.baload, 1) := by decide +kernel
theorem eX0_clause_48 : decode mX0_clause.2.1 48 = .ok (.bipush 111, 2) := by decide +kernel
theorem eX0_clause_50 : decode mX0_clause.2.1 50 = .ok (.if_icmp .ne 7, 3) := by decide +kernel
theorem eX0_clause_53 : decode mX0_clause.2.1 53 = .ok (.iconst 1, 1) := by decide +kernel
theorem eX0_clause_54 : decode mX0_clause.2.1 54 = .ok (.goto 4, 3) := by decide +kernel
theorem eX0_clause_57 : decode mX0_clause.2.1 57 = .ok (.iconst 0, 1) := by decide +kernel
theorem eX0_clause_58 : decode mX0_clause.2.1 58 = .ok (.istore_n 1, 1) := by decide +kernel
theorem eX0_clause_59 : decode mX0_clause.2.1 59 = .ok (.aload_n 0, 1) := by decide +kernel
theorem eX0_clause_60 : decode mX0_clause.2.1 60 = .ok (.iload_n 1, 1) := by decide +kernel
theorem eX0_clause_61 : decode mX0_clause.2.1 61 = .ok (.ifCond .eq 8, 3) := by decide +kernel
theorem eX0_clause_64 : decode mX0_clause.2.1 64 = .ok (.ldc 63, 2) := by decide +kernel
theorem eX0_clause_66 : decode mX0_clause.2.1 66 = .ok (.goto 5, 3) := by decide +kernel
theorem eX0_clause_69 : decode mX0_clause.2.1 69 = .ok (.ldc 65, 2) := by decide +kernel
theorem eX0_clause_71 : decode mX0_clause.2.1 71 = .ok (.invokevirtual 56, 3) := by decide +kernel
theorem eX0_clause_74 : decode mX0_clause.2.1 74 = .ok (.aload_n 0, 1) := by decide +kernel
theorem eX0_clause_75 : decode mX0_clause.2.1 75 = .ok (.invokevirtual 60, 3) := by decide +kernel
theorem eX0_clause_78 : decode mX0_clause.2.1 78 = .ok (.istore_n 2, 1) := by decide +kernel
theorem eX0_clause_79 : decode mX0_clause.2.1 79 = .ok (.aload_n 0, 1) := by decide +kernel
theorem eX0_clause_80 : decode mX0_clause.2.1 80 = .ok (.ldc 67, 2) := by decide +kernel
theorem eX0_clause_82 : decode mX0_clause.2.1 82 = .ok (.invokevirtual 56, 3) := by decide +kernel
theorem eX0_clause_85 : decode mX0_clause.2.1 85 = .ok (.aload_n 0, 1) := by decide +kernel
theorem eX0_clause_86 : decode mX0_clause.2.1 86 = .ok (.iconst 0, 1) := by decide +kernel
theorem eX0_clause_87 : decode mX0_clause.2.1 87 = .ok (.invokevirtual 69, 3) := by decide +kernel
theorem eX0_clause_90 : decode mX0_clause.2.1 90 = .ok (.aload_n 0, 1) := by decide +kernel
theorem eX0_clause_91 : decode mX0_clause.2.1 91 = .ok (.iload_n 1, 1) := by decide +kernel
theorem eX0_clause_92 : decode mX0_clause.2.1 92 = .ok (.ifCond .eq 8, 3) := by decide +kernel
theorem eX0_clause_95 : decode mX0_clause.2.1 95 = .ok (.bipush 6, 2) := by decide +kernel
theorem eX0_clause_97 : decode mX0_clause.2.1 97 = .ok (.goto 5, 3) := by decide +kernel
theorem eX0_clause_100 : decode mX0_clause.2.1 100 = .ok (.bipush 7, 2) := by decide +kernel
theorem eX0_clause_102 : decode mX0_clause.2.1 102 = .ok (.iconst 0, 1) := by decide +kernel
theorem eX0_clause_103 : decode mX0_clause.2.1 103 = .ok (.iload_n 2, 1) := by decide +kernel
theorem eX0_clause_104 : decode mX0_clause.2.1 104 = .ok (.invokevirtual 73, 3) := by decide +kernel
theorem eX0_clause_107 : decode mX0_clause.2.1 107 = .ok (.return_, 1) := by decide +kernel
theorem r_X0_clause (hR : RdAt h e n R a true ss r) (hn : n ≤ 100) (hA : RA R n) (ha : a ≤ n) (hl : ss.length ≤ a) (s114 : sg R n a = 114) (hd : 18 ≤ d) : Ct l G mX0_clause yX0_clause d 0 0 [.ref e] h (fun v h' => v = none ∧ ∃ ss' C, ClS R n ss ss' a r C ∧ RdAt h' e n R C.1.1 C.1.2 ss' C.2.2 ∧ Same e 3 h h') := by
  refine ct_of (lv := [some (.ref e), none, none]) (by decide +kernel) rfl (fun z => by cases z) (fun _ => rfl) (fun _ => Nat.le_of_ble_eq_true rfl) ?_
  refine aw_aload_n (pc' := 1) eX0_clause_0 rfl rfl trivial ?_
  refine aw_callv (pc' := 4) (nn := 0) (c_X0_sign (d := d - 1) hR hn (by omega) (by omega)) eX0_clause_1 rfl ⟨q424, q427, q59⟩ q426 q8 ⟨rfl, by decide +kernel, by decide +kernel, by decide +kernel⟩ rfl (hR).ob rfl ⟨by omega, by decide⟩ ⟨by omega, by omega⟩ rfl (Nat.le_of_ble_eq_true rfl) (fun v1 h2 hq3 => ?_)
  obtain ⟨rfl, rfl⟩ := hq3
  dsimp only [Option.toList, List.cons_append, List.nil_append]
  refine aw_bipush (pc' := 6) (v := 114) eX0_clause_4 rfl (by decide) ?_
  refine aw_icmp_ne (pc' := 9) (tgt := 24) eX0_clause_6 rfl (by decide) (fun c_6 => ?_) (fun c_6 => ?_)
  · exact absurd (show sg R n a = 114 from s114) c_6
  · have p114 : pAt R n (a, true) 114 = true := yes_at hA (c := 114) (by omega) rfl s114
    refine aw_aload_n (pc' := 10) eX0_clause_9 rfl rfl trivial ?_
    refine aw_ldcS (pc' := 12) (a := 4) (tx := "room ") eX0_clause_10 rfl (by decide) (by decide) ?_
    refine aw_callv (pc' := 15) (nn := 1) (c_X0_letters (d := d - 1) hR hn hA ha (i := 1) (by omega) (by omega)) eX0_clause_12 rfl ⟨q429, q432, q59⟩ q431 q9 ⟨rfl, by decide +kernel, by decide +kernel, by decide +kernel⟩ rfl (hR).ob rfl ⟨by omega, by decide⟩ ⟨by omega, by omega⟩ rfl (Nat.le_of_ble_eq_true rfl) (fun v6 h7 hq8 => ?_)
    obtain ⟨rfl, hR4, hs5⟩ := hq8
    dsimp only [Option.toList, List.cons_append, List.nil_append]
    refine aw_aload_n (pc' := 16) eX0_clause_15 rfl rfl trivial ?_
    refine aw_aload_n (pc' := 17) eX0_clause_16 rfl rfl trivial ?_
    refine aw_callv (pc' := 20) (nn := 0) (c_X0_number (d := d - 1) hR4 hn hA (ltN_le (p := (a, true)) ha _) (by omega)) eX0_clause_17 rfl ⟨q472, q475, q59⟩ q474 q10 ⟨rfl, by decide +kernel, by decide +kernel, by decide +kernel⟩ rfl (hR4).ob rfl ⟨by omega, by decide⟩ ⟨by omega, by omega⟩ rfl (Nat.le_of_ble_eq_true rfl) (fun v11 h12 hq13 => ?_)
    obtain ⟨rfl, hR9, hs10⟩ := hq13
    have hT14 := hs5.tr hs10
    dsimp only [Option.toList, List.cons_append, List.nil_append]
    refine aw_Rroom (pc' := 23) hR9 eX0_clause_20 rfl q189 (fun h17 hR15 hs16 => ?_)
    have hT18 := hT14.tr hs16
    refine aw_ret (v := none) eX0_clause_23 rfl (by omega) (by omega) rfl ?_
    have hc := cl_r (r := r) (N := N0) (s := 0) p114
    refine ⟨rfl, _, _, ClS.rm p114 hl, ?_, hT18⟩
    rw [hc]
    exact hR15
theorem s_X0_clause (hR : RdAt h e n R a true ss r) (hn : n ≤ 100) (hA : RA R n) (ha : a ≤ n) (hl : ss.length ≤ a) (s114 : ¬ sg R n a = 114) (hd : 18 ≤ d) : Ct l G mX0_clause yX0_clause d 0 0 [.ref e] h (fun v h' => v = none ∧ ∃ ss' C, ClS R n ss ss' a r C ∧ RdAt h' e n R C.1.1 C.1.2 ss' C.2.2 ∧ Same e 3 h h') := by
  refine ct_of (lv := [some (.ref e), none, none]) (by decide +kernel) rfl (fun z => by cases z) (fun _ => rfl) (fun _ => Nat.le_of_ble_eq_true rfl) ?_
  refine aw_aload_n (pc' := 1) eX0_clause_0 rfl rfl trivial ?_
  refine aw_callv (pc' := 4) (nn := 0) (c_X0_sign (d := d - 1) hR hn (by omega) (by omega)) eX0_clause_1 rfl ⟨q424, q427, q59⟩ q426 q8 ⟨rfl, by decide +kernel, by decide +kernel, by decide +kernel⟩ rfl (hR).ob rfl ⟨by omega, by decide⟩ ⟨by omega, by omega⟩ rfl (Nat.le_of_ble_eq_true rfl) (fun v1 h2 hq3 => ?_)
  obtain ⟨rfl, rfl⟩ := hq3
  dsimp only [Option.toList, List.cons_append, List.nil_append]
  refine aw_bipush (pc' := 6) (v := 114) eX0_clause_4 rfl (by decide) ?_
  refine aw_icmp_ne (pc' := 9) (tgt := 24) eX0_clause_6 rfl (by decide) (fun c_6 => ?_) (fun c_6 => ?_)
  · have n114 : ¬ pAt R n (a, true) 114 = true := fun z => no_at hA (c := 114) (by omega) s114 z
    have hq1 : (cQ1 R n a).1 ≤ n := by
      unfold cQ1
      split
      · exact ltN_le (p := (a, true)) ha _
      · exact ltN_le (p := (a, true)) ha _
    have hq2 : (cQ2 R n a).1 ≤ n := pTk_le (pNum_le hq1)
    refine aw_aload_n (pc' := 25) eX0_clause_24 rfl rfl trivial ?_
    refine aw_Oget (pc' := 28) (ci := 0) (kf := 3) (N := 7) (.int (nI (a))) (hR).1 eX0_clause_25 rfl rfl rfl inX0 (by decide) q186 rfl ?_
    refine aw_iconst (pc' := 29) (v := 1) eX0_clause_28 rfl (by decide) ?_
    refine aw_iadd (pc' := 30) eX0_clause_29 rfl ?_
    rw [show nI a + 1 = nI (a + 1) from nI_1 a]
    refine aw_aload_n (pc' := 31) eX0_clause_30 rfl rfl trivial ?_
    refine aw_Oget (pc' := 34) (ci := 0) (kf := 2) (N := 7) (.int (nI n)) (hR).1 eX0_clause_31 rfl rfl rfl inX0 (by decide) q184 rfl ?_
    refine aw_icmp_ge (pc' := 37) (tgt := 57) eX0_clause_34 rfl (by decide) (fun c_34 => ?_) (fun c_34 => ?_)
    · refine aw_iconst (pc' := 58) (v := 0) eX0_clause_57 rfl (by decide) ?_
      refine aw_istore_n (pc' := 59) eX0_clause_58 rfl (by decide) ?_
      dsimp only [zst, zst2, zcut]
      have eS : ¬ isSo R n a = true := fun z => by simp [isSo] at z; exact absurd z.1 (by have := ge_nI (a := a + 1) (b := n) (by omega) (by omega) c_34; omega)
      refine aw_aload_n (pc' := 60) eX0_clause_59 rfl rfl trivial ?_
      refine aw_iload_n (pc' := 61) eX0_clause_60 rfl rfl ?_
      refine aw_if_eq (pc' := 64) (tgt := 69) eX0_clause_61 rfl (by decide) (fun c_61 => ?_) (fun c_61 => ?_)
      · refine aw_ldcS (pc' := 71) (a := 6) (tx := "sweet ") eX0_clause_69 rfl (by decide) (by decide) ?_
        refine aw_callv (pc' := 74) (nn := 1) (c_X0_letters (d := d - 1) hR hn hA ha (i := 3) (by omega) (by omega)) eX0_clause_71 rfl ⟨q429, q432, q59⟩ q431 q9 ⟨rfl, by decide +kernel, by decide +kernel, by decide +kernel⟩ rfl (hR).ob rfl ⟨by omega, by decide⟩ ⟨by omega, by omega⟩ rfl (Nat.le_of_ble_eq_true rfl) (fun v6 h7 hq8 => ?_)
        obtain ⟨rfl, hR4, hs5⟩ := hq8
        have hR9 := RdAt.cv (a' := (cQ1 R n a).1) (b' := (cQ1 R n a).2) hR4 (congrArg Prod.fst (show cQ1 R n a = ltN R n (by1 3) (a, true) 6 from (if_neg eS))).symm (congrArg Prod.snd (show cQ1 R n a = ltN R n (by1 3) (a, true) 6 from (if_neg eS))).symm
        dsimp only [Option.toList, List.cons_append, List.nil_append]
        refine aw_aload_n (pc' := 75) eX0_clause_74 rfl rfl trivial ?_
        refine aw_callv (pc' := 78) (nn := 0) (c_X0_number (d := d - 1) hR9 hn hA hq1 (by omega)) eX0_clause_75 rfl ⟨q472, q475, q59⟩ q474 q10 ⟨rfl, by decide +kernel, by decide +kernel, by decide +kernel⟩ rfl (hR9).ob rfl ⟨by omega, by decide⟩ ⟨by omega, by omega⟩ rfl (Nat.le_of_ble_eq_true rfl) (fun v12 h13 hq14 => ?_)
        obtain ⟨rfl, hR10, hs11⟩ := hq14
        have hT15 := hs5.tr hs11
        dsimp only [Option.toList, List.cons_append, List.nil_append]
        refine aw_istore_n (pc' := 79) eX0_clause_78 rfl (by decide) ?_
        dsimp only [zst, zst2, zcut]
        refine aw_aload_n (pc' := 80) eX0_clause_79 rfl rfl trivial ?_
        refine aw_ldcS (pc' := 82) (a := 7) (tx := " ") eX0_clause_80 rfl (by decide) (by decide) ?_
        refine aw_callv (pc' := 85) (nn := 1) (c_X0_letters (d := d - 1) hR10 hn hA (pNum_le hq1) (i := 4) (by omega) (by omega)) eX0_clause_82 rfl ⟨q429, q432, q59⟩ q431 q9 ⟨rfl, by decide +kernel, by decide +kernel, by decide +kernel⟩ rfl (hR10).ob rfl ⟨by omega, by decide⟩ ⟨by omega, by omega⟩ rfl (Nat.le_of_ble_eq_true rfl) (fun v18 h19 hq20 => ?_)
        obtain ⟨rfl, hR16, hs17⟩ := hq20
        have hT21 := hT15.tr hs17
        have hR22 := RdAt.cv (a' := (cQ2 R n a).1) (b' := (cQ2 R n a).2) hR16 rfl rfl
        dsimp only [Option.toList, List.cons_append, List.nil_append]
        refine aw_aload_n (pc' := 86) eX0_clause_85 rfl rfl trivial ?_
        refine aw_iconst (pc' := 87) (v := 0) eX0_clause_86 rfl (by decide) ?_
        refine aw_callv (pc' := 90) (nn := 1) (c_X0_either (d := d - 1) hR22 hn hA hq2 (by have := q_ge (R := R) (n := n) (a := a); omega) (by omega)) eX0_clause_87 rfl ⟨q479, q482, q59⟩ q481 q11 ⟨rfl, by decide +kernel, by decide +kernel, by decide +kernel⟩ rfl (hR22).ob rfl ⟨by omega, by decide⟩ ⟨by omega, by omega⟩ rfl (Nat.le_of_ble_eq_true rfl) (fun v25 h26 hq27 => ?_)
        obtain ⟨rfl, ss1, hR23, hso, hs24⟩ := hq27
        have hso : SO ss ss1 (cQ2 R n a).1 (PX R n mLe N0 3 0 false (cQ2 R n a)).2.1 (PX R n mLe N0 3 0 false (cQ2 R n a)).2.2 (fun N => (PX R n mLe N 3 0 false (cQ2 R n a)).1) 11 := hso
        have hT28 := hT21.tr hs24
        dsimp only [Option.toList, List.cons_append, List.nil_append]
        have hP9 := (PX_mon (R := R) (L := mLe) (N := N0) (t := 3) (k := 0) (b := false) hq2).2
        have hl9 : (PX R n mLe N0 3 0 false (cQ2 R n a)).2.2 = true → ss1.length < 100 := fun z => by have g := q2_ge (PX_t (by omega) z); have := hso.1; omega
        refine aw_aload_n (pc' := 91) eX0_clause_90 rfl rfl trivial ?_
        refine aw_iload_n (pc' := 92) eX0_clause_91 rfl rfl ?_
        refine aw_if_eq (pc' := 95) (tgt := 100) eX0_clause_92 rfl (by decide) (fun c_92 => ?_) (fun c_92 => ?_)
        · refine aw_bipush (pc' := 102) (v := 7) eX0_clause_100 rfl (by decide) ?_
          refine aw_iconst (pc' := 103) (v := 0) eX0_clause_102 rfl (by decide) ?_
          refine aw_iload_n (pc' := 104) eX0_clause_103 rfl rfl ?_
          refine aw_callv (pc' := 107) (nn := 3) (c_X0_step (d := d - 1) hR23 (fun z => hl9 z) (by have := hso.1; omega) _ 0 _ (by omega)) eX0_clause_104 rfl ⟨q550, q553, q59⟩ q552 q14 ⟨rfl, by decide +kernel, by decide +kernel, by decide +kernel⟩ rfl (hR23).ob rfl ⟨by omega, by decide⟩ ⟨by omega, by omega⟩ rfl (Nat.le_of_ble_eq_true rfl) (fun v31 h32 hq33 => ?_)
          obtain ⟨rfl, hR29, hs30⟩ := hq33
          have hT34 := hT28.tr hs30
          dsimp only [Option.toList, List.cons_append, List.nil_append]
          refine aw_ret (v := none) eX0_clause_107 rfl (by omega) (by omega) rfl ?_
          have hC := ClS.so (r := r) hn hA n114 hso (x := (((pNum R n (cQ1 R n a)).1 <<< (8 &&& 31)) ||| ((0 : Int32) <<< (4 &&& 31))) ||| 7) (by rw [if_neg eS]) rfl
          have hc := cl_eq (r := r) (N := N0) (s := 0) hn n114
          refine ⟨rfl, _, _, hC, ?_, hT34⟩
          rw [hc.1, hc.2.1]
          exact hR29
        · exact absurd c_92 (by decide)
      · exact absurd c_61 (by decide)
    · have c9 : a + 1 < n := nge_nI (by omega) (by omega) c_34
      refine aw_aload_n (pc' := 38) eX0_clause_37 rfl rfl trivial ?_
      refine aw_Oget (pc' := 41) (ci := 0) (kf := 0) (N := 7) (.ref (e + 1)) (hR).1 eX0_clause_38 rfl rfl rfl inX0 (by decide) q182 rfl ?_
      refine aw_aload_n (pc' := 42) eX0_clause_41 rfl rfl trivial ?_
      refine aw_Oget (pc' := 45) (ci := 0) (kf := 3) (N := 7) (.int (nI (a))) (hR).1 eX0_clause_42 rfl rfl rfl inX0 (by decide) q186 rfl ?_
      refine aw_iconst (pc' := 46) (v := 1) eX0_clause_45 rfl (by decide) ?_
      refine aw_iadd (pc' := 47) eX0_clause_46 rfl ?_
      rw [show nI a + 1 = nI (a + 1) from nI_1 a]
      refine aw_Rtx (pc' := 48) (a + 1) hR eX0_clause_47 rfl c9 rfl (by omega) ?_
      refine aw_bipush (pc' := 50) (v := 111) eX0_clause_48 rfl (by decide) ?_
      refine aw_icmp_ne (pc' := 53) (tgt := 57) eX0_clause_50 rfl (by decide) (fun c_50 => ?_) (fun c_50 => ?_)
      · refine aw_iconst (pc' := 58) (v := 0) eX0_clause_57 rfl (by decide) ?_
        refine aw_istore_n (pc' := 59) eX0_clause_58 rfl (by decide) ?_
        dsimp only [zst, zst2, zcut]
        have eS : ¬ isSo R n a = true := fun z => by simp [isSo] at z; exact c_50 z.2
        refine aw_aload_n (pc' := 60) eX0_clause_59 rfl rfl trivial ?_
        refine aw_iload_n (pc' := 61) eX0_clause_60 rfl rfl ?_
        refine aw_if_eq (pc' := 64) (tgt := 69) eX0_clause_61 rfl (by decide) (fun c_61 => ?_) (fun c_61 => ?_)
        · refine aw_ldcS (pc' := 71) (a := 6) (tx := "sweet ") eX0_clause_69 rfl (by decide) (by decide) ?_
          refine aw_callv (pc' := 74) (nn := 1) (c_X0_letters (d := d - 1) hR hn hA ha (i := 3) (by omega) (by omega)) eX0_clause_71 rfl ⟨q429, q432, q59⟩ q431 q9 ⟨rfl, by decide +kernel, by decide +kernel, by decide +kernel⟩ rfl (hR).ob rfl ⟨by omega, by decide⟩ ⟨by omega, by omega⟩ rfl (Nat.le_of_ble_eq_true rfl) (fun v37 h38 hq39 => ?_)
          obtain ⟨rfl, hR35, hs36⟩ := hq39
          have hR40 := RdAt.cv (a' := (cQ1 R n a).1) (b' := (cQ1 R n a).2) hR35 (congrArg Prod.fst (show cQ1 R n a = ltN R n (by1 3) (a, true) 6 from (if_neg eS))).symm (congrArg Prod.snd (show cQ1 R n a = ltN R n (by1 3) (a, true) 6 from (if_neg eS))).symm
          dsimp only [Option.toList, List.cons_append, List.nil_append]
          refine aw_aload_n (pc' := 75) eX0_clause_74 rfl rfl trivial ?_
          refine aw_callv (pc' := 78) (nn := 0) (c_X0_number (d := d - 1) hR40 hn hA hq1 (by omega)) eX0_clause_75 rfl ⟨q472, q475, q59⟩ q474 q10 ⟨rfl, by decide +kernel, by decide +kernel, by decide +kernel⟩ rfl (hR40).ob rfl ⟨by omega, by decide⟩ ⟨by omega, by omega⟩ rfl (Nat.le_of_ble_eq_true rfl) (fun v43 h44 hq45 => ?_)
          obtain ⟨rfl, hR41, hs42⟩ := hq45
          have hT46 := hs36.tr hs42
          dsimp only [Option.toList, List.cons_append, List.nil_append]
          refine aw_istore_n (pc' := 79) eX0_clause_78 rfl (by decide) ?_
          dsimp only [zst, zst2, zcut]
          refine aw_aload_n (pc' := 80) eX0_clause_79 rfl rfl trivial ?_
          refine aw_ldcS (pc' := 82) (a := 7) (tx := " ") eX0_clause_80 rfl (by decide) (by decide) ?_
          refine aw_callv (pc' := 85) (nn := 1) (c_X0_letters (d := d - 1) hR41 hn hA (pNum_le hq1) (i := 4) (by omega) (by omega)) eX0_clause_82 rfl ⟨q429, q432, q59⟩ q431 q9 ⟨rfl, by decide +kernel, by decide +kernel, by decide +kernel⟩ rfl (hR41).ob rfl ⟨by omega, by decide⟩ ⟨by omega, by omega⟩ rfl (Nat.le_of_ble_eq_true rfl) (fun v49 h50 hq51 => ?_)
          obtain ⟨rfl, hR47, hs48⟩ := hq51
          have hT52 := hT46.tr hs48
          have hR53 := RdAt.cv (a' := (cQ2 R n a).1) (b' := (cQ2 R n a).2) hR47 rfl rfl
          dsimp only [Option.toList, List.cons_append, List.nil_append]
          refine aw_aload_n (pc' := 86) eX0_clause_85 rfl rfl trivial ?_
          refine aw_iconst (pc' := 87) (v := 0) eX0_clause_86 rfl (by decide) ?_
          refine aw_callv (pc' := 90) (nn := 1) (c_X0_either (d := d - 1) hR53 hn hA hq2 (by have := q_ge (R := R) (n := n) (a := a); omega) (by omega)) eX0_clause_87 rfl ⟨q479, q482, q59⟩ q481 q11 ⟨rfl, by decide +kernel, by decide +kernel, by decide +kernel⟩ rfl (hR53).ob rfl ⟨by omega, by decide⟩ ⟨by omega, by omega⟩ rfl (Nat.le_of_ble_eq_true rfl) (fun v56 h57 hq58 => ?_)
          obtain ⟨rfl, ss1, hR54, hso, hs55⟩ := hq58
          have hso : SO ss ss1 (cQ2 R n a).1 (PX R n mLe N0 3 0 false (cQ2 R n a)).2.1 (PX R n mLe N0 3 0 false (cQ2 R n a)).2.2 (fun N => (PX R n mLe N 3 0 false (cQ2 R n a)).1) 11 := hso
          have hT59 := hT52.tr hs55
          dsimp only [Option.toList, List.cons_append, List.nil_append]
          have hP9 := (PX_mon (R := R) (L := mLe) (N := N0) (t := 3) (k := 0) (b := false) hq2).2
          have hl9 : (PX R n mLe N0 3 0 false (cQ2 R n a)).2.2 = true → ss1.length < 100 := fun z => by have g := q2_ge (PX_t (by omega) z); have := hso.1; omega
          refine aw_aload_n (pc' := 91) eX0_clause_90 rfl rfl trivial ?_
          refine aw_iload_n (pc' := 92) eX0_clause_91 rfl rfl ?_
          refine aw_if_eq (pc' := 95) (tgt := 100) eX0_clause_92 rfl (by decide) (fun c_92 => ?_) (fun c_92 => ?_)
          · refine aw_bipush (pc' := 102) (v := 7) eX0_clause_100 rfl (by decide) ?_
            refine aw_iconst (pc' := 103) (v := 0) eX0_clause_102 rfl (by decide) ?_
            refine aw_iload_n (pc' := 104) eX0_clause_103 rfl rfl ?_
            refine aw_callv (pc' := 107) (nn := 3) (c_X0_step (d := d - 1) hR54 (fun z => hl9 z) (by have := hso.1; omega) _ 0 _ (by omega)) eX0_clause_104 rfl ⟨q550, q553, q59⟩ q552 q14 ⟨rfl, by decide +kernel, by decide +kernel, by decide +kernel⟩ rfl (hR54).ob rfl ⟨by omega, by decide⟩ ⟨by omega, by omega⟩ rfl (Nat.le_of_ble_eq_true rfl) (fun v62 h63 hq64 => ?_)
            obtain ⟨rfl, hR60, hs61⟩ := hq64
            have hT65 := hT59.tr hs61
            dsimp only [Option.toList, List.cons_append, List.nil_append]
            refine aw_ret (v := none) eX0_clause_107 rfl (by omega) (by omega) rfl ?_
            have hC := ClS.so (r := r) hn hA n114 hso (x := (((pNum R n (cQ1 R n a)).1 <<< (8 &&& 31)) ||| ((0 : Int32) <<< (4 &&& 31))) ||| 7) (by rw [if_neg eS]) rfl
            have hc := cl_eq (r := r) (N := N0) (s := 0) hn n114
            refine ⟨rfl, _, _, hC, ?_, hT65⟩
            rw [hc.1, hc.2.1]
            exact hR60
          · exact absurd c_92 (by decide)
        · exact absurd c_61 (by decide)
      · refine aw_iconst (pc' := 54) (v := 1) eX0_clause_53 rfl (by decide) ?_
        refine aw_goto eX0_clause_54 (by decide) (tgt := 58) ?_
        refine aw_istore_n (pc' := 59) eX0_clause_58 rfl (by decide) ?_
        dsimp only [zst, zst2, zcut]
        have eS : isSo R n a = true := by simp [isSo, c9, c_50]
        refine aw_aload_n (pc' := 60) eX0_clause_59 rfl rfl trivial ?_
        refine aw_iload_n (pc' := 61) eX0_clause_60 rfl rfl ?_
        refine aw_if_eq (pc' := 64) (tgt := 69) eX0_clause_61 rfl (by decide) (fun c_61 => ?_) (fun c_61 => ?_)
        · exact absurd c_61 (by decide)
        · refine aw_ldcS (pc' := 66) (a := 5) (tx := "sour ") eX0_clause_64 rfl (by decide) (by decide) ?_
          refine aw_goto eX0_clause_66 (by decide) (tgt := 71) ?_
          refine aw_callv (pc' := 74) (nn := 1) (c_X0_letters (d := d - 1) hR hn hA ha (i := 2) (by omega) (by omega)) eX0_clause_71 rfl ⟨q429, q432, q59⟩ q431 q9 ⟨rfl, by decide +kernel, by decide +kernel, by decide +kernel⟩ rfl (hR).ob rfl ⟨by omega, by decide⟩ ⟨by omega, by omega⟩ rfl (Nat.le_of_ble_eq_true rfl) (fun v68 h69 hq70 => ?_)
          obtain ⟨rfl, hR66, hs67⟩ := hq70
          have hR71 := RdAt.cv (a' := (cQ1 R n a).1) (b' := (cQ1 R n a).2) hR66 (congrArg Prod.fst (show cQ1 R n a = ltN R n (by1 2) (a, true) 5 from (if_pos eS))).symm (congrArg Prod.snd (show cQ1 R n a = ltN R n (by1 2) (a, true) 5 from (if_pos eS))).symm
          dsimp only [Option.toList, List.cons_append, List.nil_append]
          refine aw_aload_n (pc' := 75) eX0_clause_74 rfl rfl trivial ?_
          refine aw_callv (pc' := 78) (nn := 0) (c_X0_number (d := d - 1) hR71 hn hA hq1 (by omega)) eX0_clause_75 rfl ⟨q472, q475, q59⟩ q474 q10 ⟨rfl, by decide +kernel, by decide +kernel, by decide +kernel⟩ rfl (hR71).ob rfl ⟨by omega, by decide⟩ ⟨by omega, by omega⟩ rfl (Nat.le_of_ble_eq_true rfl) (fun v74 h75 hq76 => ?_)
          obtain ⟨rfl, hR72, hs73⟩ := hq76
          have hT77 := hs67.tr hs73
          dsimp only [Option.toList, List.cons_append, List.nil_append]
          refine aw_istore_n (pc' := 79) eX0_clause_78 rfl (by decide) ?_
          dsimp only [zst, zst2, zcut]
          refine aw_aload_n (pc' := 80) eX0_clause_79 rfl rfl trivial ?_
          refine aw_ldcS (pc' := 82) (a := 7) (tx := " ") eX0_clause_80 rfl (by decide) (by decide) ?_
          refine aw_callv (pc' := 85) (nn := 1) (c_X0_letters (d := d - 1) hR72 hn hA (pNum_le hq1) (i := 4) (by omega) (by omega)) eX0_clause_82 rfl ⟨q429, q432, q59⟩ q431 q9 ⟨rfl, by decide +kernel, by decide +kernel, by decide +kernel⟩ rfl (hR72).ob rfl ⟨by omega, by decide⟩ ⟨by omega, by omega⟩ rfl (Nat.le_of_ble_eq_true rfl) (fun v80 h81 hq82 => ?_)
          obtain ⟨rfl, hR78, hs79⟩ := hq82
          have hT83 := hT77.tr hs79
          have hR84 := RdAt.cv (a' := (cQ2 R n a).1) (b' := (cQ2 R n a).2) hR78 rfl rfl
          dsimp only [Option.toList, List.cons_append, List.nil_append]
          refine aw_aload_n (pc' := 86) eX0_clause_85 rfl rfl trivial ?_
          refine aw_iconst (pc' := 87) (v := 0) eX0_clause_86 rfl (by decide) ?_
          refine aw_callv (pc' := 90) (nn := 1) (c_X0_either (d := d - 1) hR84 hn hA hq2 (by have := q_ge (R := R) (n := n) (a := a); omega) (by omega)) eX0_clause_87 rfl ⟨q479, q482, q59⟩ q481 q11 ⟨rfl, by decide +kernel, by decide +kernel, by decide +kernel⟩ rfl (hR84).ob rfl ⟨by omega, by decide⟩ ⟨by omega, by omega⟩ rfl (Nat.le_of_ble_eq_true rfl) (fun v87 h88 hq89 => ?_)
          obtain ⟨rfl, ss1, hR85, hso, hs86⟩ := hq89
          have hso : SO ss ss1 (cQ2 R n a).1 (PX R n mLe N0 3 0 false (cQ2 R n a)).2.1 (PX R n mLe N0 3 0 false (cQ2 R n a)).2.2 (fun N => (PX R n mLe N 3 0 false (cQ2 R n a)).1) 11 := hso
          have hT90 := hT83.tr hs86
          dsimp only [Option.toList, List.cons_append, List.nil_append]
          have hP9 := (PX_mon (R := R) (L := mLe) (N := N0) (t := 3) (k := 0) (b := false) hq2).2
          have hl9 : (PX R n mLe N0 3 0 false (cQ2 R n a)).2.2 = true → ss1.length < 100 := fun z => by have g := q2_ge (PX_t (by omega) z); have := hso.1; omega
          refine aw_aload_n (pc' := 91) eX0_clause_90 rfl rfl trivial ?_
          refine aw_iload_n (pc' := 92) eX0_clause_91 rfl rfl ?_
          refine aw_if_eq (pc' := 95) (tgt := 100) eX0_clause_92 rfl (by decide) (fun c_92 => ?_) (fun c_92 => ?_)
          · exact absurd c_92 (by decide)
          · refine aw_bipush (pc' := 97) (v := 6) eX0_clause_95 rfl (by decide) ?_
            refine aw_goto eX0_clause_97 (by decide) (tgt := 102) ?_
            refine aw_iconst (pc' := 103) (v := 0) eX0_clause_102 rfl (by decide) ?_
            refine aw_iload_n (pc' := 104) eX0_clause_103 rfl rfl ?_
            refine aw_callv (pc' := 107) (nn := 3) (c_X0_step (d := d - 1) hR85 (fun z => hl9 z) (by have := hso.1; omega) _ 0 _ (by omega)) eX0_clause_104 rfl ⟨q550, q553, q59⟩ q552 q14 ⟨rfl, by decide +kernel, by decide +kernel, by decide +kernel⟩ rfl (hR85).ob rfl ⟨by omega, by decide⟩ ⟨by omega, by omega⟩ rfl (Nat.le_of_ble_eq_true rfl) (fun v93 h94 hq95 => ?_)
            obtain ⟨rfl, hR91, hs92⟩ := hq95
            have hT96 := hT90.tr hs92
            dsimp only [Option.toList, List.cons_append, List.nil_append]
            refine aw_ret (v := none) eX0_clause_107 rfl (by omega) (by omega) rfl ?_
            have hC := ClS.so (r := r) hn hA n114 hso (x := (((pNum R n (cQ1 R n a)).1 <<< (8 &&& 31)) ||| ((0 : Int32) <<< (4 &&& 31))) ||| 6) (by rw [if_pos eS]) rfl
            have hc := cl_eq (r := r) (N := N0) (s := 0) hn n114
            refine ⟨rfl, _, _, hC, ?_, hT96⟩
            rw [hc.1, hc.2.1]
            exact hR91
  · exact absurd c_6 s114
theorem c_X0_clause (hR : RdAt h e n R a true ss r) (hn : n ≤ 100) (hA : RA R n) (ha : a ≤ n) (hl : ss.length ≤ a) (hd : 18 ≤ d) : Ct l G mX0_clause yX0_clause d 0 0 [.ref e] h (fun v h' => v = none ∧ ∃ ss' C, ClS R n ss ss' a r C ∧ RdAt h' e n R C.1.1 C.1.2 ss' C.2.2 ∧ Same e 3 h h') := by
  by_cases s114 : sg R n a = 114
  · exact r_X0_clause hR hn hA ha hl s114 hd
  · exact s_X0_clause hR hn hA ha hl s114 hd
theorem eN_lt {x y : Nat} (hx : x < 2147483648) (hy : y < 2147483648) (hxy : x ≤ y) : (if nI x < nI y then nI x else nI y) = nI x := by
  by_cases c : x < y
  · rw [if_pos ((nI_ltI hx hy).mpr c)]
  · rw [if_neg (fun z => c ((nI_ltI hx hy).mp z)), show y = x by omega]
abbrev mJ7_copyOf_59c91 : MT := (RJ7, cJ7_copyOf_59c91, 3, (some (.array .int)), false)
theorem eJ7_copyOf_59c91_0 : decode mJ7_copyOf_59c91.2.1 0 = .ok (.iload_n 1, 1) := by decide +kernel
theorem eJ7_copyOf_59c91_1 : decode mJ7_copyOf_59c91.2.1 1 = .ok (.aload_n 0, 1) := by decide +kernel
theorem eJ7_copyOf_59c91_2 : decode mJ7_copyOf_59c91.2.1 2 = .ok (.arraylength, 1) := by decide +kernel
theorem eJ7_copyOf_59c91_3 : decode mJ7_copyOf_59c91.2.1 3 = .ok (.if_icmp .ne 11, 3) := by decide +kernel
theorem eJ7_copyOf_59c91_6 : decode mJ7_copyOf_59c91.2.1 6 = .ok (.aload_n 0, 1) := by decide +kernel
theorem eJ7_copyOf_59c91_7 : decode mJ7_copyOf_59c91.2.1 7 = .ok (.invokevirtual 316, 3) := by decide +kernel
theorem eJ7_copyOf_59c91_10 : decode mJ7_copyOf_59c91.2.1 10 = .ok (.checkcast 317, 3) := by decide +kernel
theorem eJ7_copyOf_59c91_13 : decode mJ7_copyOf_59c91.2.1 13 = .ok (.areturn, 1) := by decide +kernel
theorem eJ7_copyOf_59c91_14 : decode mJ7_copyOf_59c91.2.1 14 = .ok (.iload_n 1, 1) := by decide +kernel
theorem eJ7_copyOf_59c91_15 : decode mJ7_copyOf_59c91.2.1 15 = .ok (.newarray .int, 2) := by decide +kernel
theorem eJ7_copyOf_59c91_17 : decode mJ7_copyOf_59c91.2.1 17 = .ok (.astore_n 2, 1) := by decide +kernel
theorem eJ7_copyOf_59c91_18 : decode mJ7_copyOf_59c91.2.1 18 = .ok (.aload_n 0, 1) := by decide +kernel
theorem eJ7_copyOf_59c91_19 : decode mJ7_copyOf_59c91.2.1 19 = .ok (.iconst 0, 1) := by decide +kernel
theorem eJ7_copyOf_59c91_20 : decode mJ7_copyOf_59c91.2.1 20 = .ok (.aload_n 2, 1) := by decide +kernel
theorem eJ7_copyOf_59c91_21 : decode mJ7_copyOf_59c91.2.1 21 = .ok (.iconst 0, 1) := by decide +kernel
theorem eJ7_copyOf_59c91_22 : decode mJ7_copyOf_59c91.2.1 22 = .ok (.aload_n 0, 1) := by decide +kernel
theorem eJ7_copyOf_59c91_23 : decode mJ7_copyOf_59c91.2.1 23 = .ok (.arraylength, 1) := by decide +kernel
theorem eJ7_copyOf_59c91_24 : decode mJ7_copyOf_59c91.2.1 24 = .ok (.iload_n 1, 1) := by decide +kernel
theorem eJ7_copyOf_59c91_25 : decode mJ7_copyOf_59c91.2.1 25 = .ok (.invokestatic 304, 3) := by decide +kernel
theorem eJ7_copyOf_59c91_28 : decode mJ7_copyOf_59c91.2.1 28 = .ok (.invokestatic 150, 3) := by decide +kernel
theorem eJ7_copyOf_59c91_31 : decode mJ7_copyOf_59c91.2.1 31 = .ok (.aload_n 2, 1) := by decide +kernel
theorem eJ7_copyOf_59c91_32 : decode mJ7_copyOf_59c91.2.1 32 = .ok (.areturn, 1) := by decide +kernel
theorem c_J7_copyOf {b N N2 : Nat} {f : Nat → Int32} (hA : OA h b (.inl (0, (N, .inl f)))) (hb : b < h.1 + 16) (hN2 : N2 < N) (hN : N ≤ 1000) (hd : 1 ≤ d) : Ct l G mJ7_copyOf_59c91 yJ7_copyOf_59c91 d 1 N2 [.ref b, .int (nI N2)] h (fun v h' => v = some (.ref (h.1 + 16)) ∧ h'.1 = h.1 + 1 ∧ (∃ f', (∀ i, i < N2 → f' i = f i) ∧ OA h' (h.1 + 16) (.inl (0, (N2, .inl f')))) ∧ ∀ x, x ≠ h.1 + 16 → h'.2 x = h.2 x) := by
  refine ct_of (lv := [some (.ref b), some (.int (nI N2)), none]) (by decide +kernel) rfl (fun z => by cases z) (fun _ => rfl) (fun _ => Nat.le_of_ble_eq_true rfl) ?_
  refine aw_iload_n (pc' := 1) eJ7_copyOf_59c91_0 rfl rfl ?_
  refine aw_aload_n (pc' := 2) eJ7_copyOf_59c91_1 rfl rfl trivial ?_
  refine aw_Alen (pc' := 3) hA eJ7_copyOf_59c91_2 rfl (by decide) ?_
  refine aw_icmp_ne (pc' := 6) (tgt := 14) eJ7_copyOf_59c91_3 rfl (by decide) (fun c_3 => ?_) (fun c_3 => ?_)
  · refine aw_iload_n (pc' := 15) eJ7_copyOf_59c91_14 rfl rfl ?_
    refine aw_Onwi (pc' := 17) (N' := N2) eJ7_copyOf_59c91_15 rfl q156 rfl (by omega) (by omega) (by omega) (fun h3 hB1 hN2 => ?_)
    have hA9 := hA.nw hN2 (by omega)
    refine aw_astore_n (pc' := 18) eJ7_copyOf_59c91_17 rfl (by decide) trivial ?_
    dsimp only [zst, zst2, zcut]
    refine aw_aload_n (pc' := 19) eJ7_copyOf_59c91_18 rfl rfl trivial ?_
    refine aw_iconst (pc' := 20) (v := 0) eJ7_copyOf_59c91_19 rfl (by decide) ?_
    refine aw_aload_n (pc' := 21) eJ7_copyOf_59c91_20 rfl rfl trivial ?_
    refine aw_iconst (pc' := 22) (v := 0) eJ7_copyOf_59c91_21 rfl (by decide) ?_
    refine aw_aload_n (pc' := 23) eJ7_copyOf_59c91_22 rfl rfl trivial ?_
    refine aw_Alen (pc' := 24) hA9 eJ7_copyOf_59c91_23 rfl (by decide) ?_
    refine aw_iload_n (pc' := 25) eJ7_copyOf_59c91_24 rfl rfl ?_
    refine aw_mmin (pc' := 28) eJ7_copyOf_59c91_25 rfl q569 q326 q63 q327 (by omega) ⟨by omega, by omega⟩ (Nat.le_of_ble_eq_true rfl) ?_
    refine aw_Acpi (pc' := 31) (s0 := 0) (s1 := 0) (c := N2) hA9 hB1 eJ7_copyOf_59c91_28 rfl q570 q338 q337 q64 rfl rfl (eN_lt (by omega) (by omega) (by omega)) ⟨by omega, by omega, by omega, by omega⟩ (by omega) (Nat.le_of_ble_eq_true rfl) (fun h6 hB4 hs5 => ?_)
    refine aw_aload_n (pc' := 32) eJ7_copyOf_59c91_31 rfl rfl trivial ?_
    refine aw_ret (v := some (.ref _)) eJ7_copyOf_59c91_32 ⟨rfl, rfl⟩ (by omega) (by omega) rfl ?_
    refine ⟨rfl, ?_, ⟨_, fun i hi => ?_, hB4⟩, fun x hx => ?_⟩
    · rw [hs5.1]; exact hN2.1
    · show (if 0 ≤ i ∧ i < 0 + N2 then f (0 + (i - 0)) else _) = _
      rw [if_pos (by omega), Nat.zero_add, Nat.sub_zero]
    · exact (hs5.2 x (by omega)).trans (hN2.2 x hx)
  · exact absurd ((nI_eq (by omega) (by omega)).mp c_3) (by omega)
abbrev mX2_init : MT := (RX2, cX2_init, 3, none, true)
theorem eX2_init_0 : decode mX2_init.2.1 0 = .ok (.aload_n 0, 1) := by decide +kernel
theorem eX2_init_1 : decode mX2_init.2.1 1 = .ok (.invokespecial 1, 3) := by decide +kernel
theorem eX2_init_4 : decode mX2_init.2.1 4 = .ok (.aload_n 0, 1) := by decide +kernel
theorem eX2_init_5 : decode mX2_init.2.1 5 = .ok (.aload_n 1, 1) := by decide +kernel
theorem eX2_init_6 : decode mX2_init.2.1 6 = .ok (.putfield 7, 3) := by decide +kernel
theorem eX2_init_9 : decode mX2_init.2.1 9 = .ok (.aload_n 0, 1) := by decide +kernel
theorem eX2_init_10 : decode mX2_init.2.1 10 = .ok (.iload_n 2, 1) := by decide +kernel
theorem eX2_init_11 : decode mX2_init.2.1 11 = .ok (.putfield 13, 3) := by decide +kernel
theorem eX2_init_14 : decode mX2_init.2.1 14 = .ok (.return_, 1) := by decide +kernel
theorem c_X2_init {s a : Nat} {r : Int32} (hO : OA h s (.inr (2, [.null, .int 0]))) (hd : 1 ≤ d) : Ct l G mX2_init yX2_init d 0 0 [.ref s, .ref a, .int r] h (fun v h' => v = none ∧ OA h' s (.inr (2, [.ref a, .int r])) ∧ Same s 1 h h') := by
  refine ct_of (lv := [some (.ref s), some (.ref a), some (.int r)]) (by decide +kernel) rfl (fun _ => rfl) (fun _ => rfl) (fun _ => Nat.le_of_ble_eq_true rfl) ?_
  refine aw_aload_n (pc' := 1) eX2_init_0 rfl rfl trivial ?_
  refine aw_objInit (pc' := 4) eX2_init_1 rfl q574 q78 q79 (by omega) (Nat.le_of_ble_eq_true rfl) ?_
  refine aw_aload_n (pc' := 5) eX2_init_4 rfl rfl trivial ?_
  refine aw_aload_n (pc' := 6) eX2_init_5 rfl rfl trivial ?_
  refine aw_OputF (pc' := 9) (ci := 2) (kf := 0) (N := 2) (ty0 := tyX2) [.ref a, .int 0] hO eX2_init_6 rfl rfl rfl inX2 tyX2_ok nmX2 (by decide) q575 rfl rfl rfl trivial rfl (fun h3 hO1 hs2 => ?_)
  refine aw_aload_n (pc' := 10) eX2_init_9 rfl rfl trivial ?_
  refine aw_iload_n (pc' := 11) eX2_init_10 rfl rfl ?_
  refine aw_OputF (pc' := 14) (ci := 2) (kf := 1) (N := 2) (ty0 := tyX2) [.ref a, .int r] hO1 eX2_init_11 rfl rfl rfl inX2 tyX2_ok nmX2 (by decide) q576 rfl rfl rfl trivial rfl (fun h6 hO4 hs5 => ?_)
  have hT7 := hs2.tr hs5
  refine aw_ret (v := none) eX2_init_14 rfl (by omega) (by omega) rfl ?_
  exact ⟨rfl, hO4, hT7⟩
abbrev mX0_readsSea : MT := (RX0, cX0_readsSea, 2, (some (.object "AmberGrains$Sea")), false)
theorem eX0_readsSea_0 : decode mX0_readsSea.2.1 0 = .ok (.aload_n 0, 1) := by decide +kernel
theorem eX0_readsSea_1 : decode mX0_readsSea.2.1 1 = .ok (.iconst 0, 1) := by decide +kernel
theorem eX0_readsSea_2 : decode mX0_readsSea.2.1 2 = .ok (.putfield 23, 3) := by decide +kernel
theorem eX0_readsSea_5 : decode mX0_readsSea.2.1 5 = .ok (.aload_n 0, 1) := by decide +kernel
theorem eX0_readsSea_6 : decode mX0_readsSea.2.1 6 = .ok (.iconst 1, 1) := by decide +kernel
theorem eX0_readsSea_7 : decode mX0_readsSea.2.1 7 = .ok (.putfield 26, 3) := by decide +kernel
theorem eX0_readsSea_10 : decode mX0_readsSea.2.1 10 = .ok (.aload_n 0, 1) := by decide +kernel
theorem eX0_readsSea_11 : decode mX0_readsSea.2.1 11 = .ok (.iconst 0, 1) := by decide +kernel
theorem eX0_readsSea_12 : decode mX0_readsSea.2.1 12 = .ok (.putfield 30, 3) := by decide +kernel
theorem eX0_readsSea_15 : decode mX0_readsSea.2.1 15 = .ok (.aload_n 0, 1) := by decide +kernel
theorem eX0_readsSea_16 : decode mX0_readsSea.2.1 16 = .ok (.bipush 30, 2) := by decide +kernel
theorem eX0_readsSea_18 : decode mX0_readsSea.2.1 18 = .ok (.putfield 33, 3) := by decide +kernel
theorem eX0_readsSea_21 : decode mX0_readsSea.2.1 21 = .ok (.aload_n 0, 1) := by decide +kernel
theorem eX0_readsSea_22 : decode mX0_readsSea.2.1 22 = .ok (.invokevirtual 36, 3) := by decide +kernel
theorem eX0_readsSea_25 : decode mX0_readsSea.2.1 25 = .ok (.iconst 1, 1) := by decide +kernel
theorem eX0_readsSea_26 : decode mX0_readsSea.2.1 26 = .ok (.istore_n 1, 1) := by decide +kernel
theorem eX0_readsSea_27 : decode mX0_readsSea.2.1 27 = .ok (.iload_n 1, 1) := by decide +kernel
theorem eX0_readsSea_28 : decode mX0_readsSea.2.1 28 = .ok (.bipush 10, 2) := by decide +kernel
theorem eX0_readsSea_30 : decode mX0_readsSea.2.1 30 = .ok (.if_icmp .ge 39, 3) := by decide +kernel
theorem eX0_readsSea_33 : decode mX0_readsSea.2.1 33 = .ok (.aload_n 0, 1) := by decide +kernel
theorem eX0_readsSea_34 : decode mX0_readsSea.2.1 34 = .ok (.getfield 26, 3) := by decide +kernel
theorem eX0_readsSea_37 : decode mX0_readsSea.2.1 37 = .ok (.ifCond .eq 32, 3) := by decide +kernel
theorem eX0_readsSea_40 : decode mX0_readsSea.2.1 40 = .ok (.aload_n 0, 1) := by decide +kernel
theorem eX0_readsSea_41 : decode mX0_readsSea.2.1 41 = .ok (.invokevirtual 39, 3) := by decide +kernel
theorem eX0_readsSea_44 : decode mX0_readsSea.2.1 44 = .ok (.bipush 59, 2) := by decide +kernel
theorem eX0_readsSea_46 : decode mX0_readsSea.2.1 46 = .ok (.if_icmp .ne 23, 3) := by decide +kernel
theorem eX0_readsSea_49 : decode mX0_readsSea.2.1 49 = .ok (.aload_n 0, 1) := by decide +kernel
theorem eX0_readsSea_50 : decode mX0_readsSea.2.1 50 = .ok (.dup, 1) := by decide +kernel
theorem eX0_readsSea_51 : decode mX0_readsSea.2.1 51 = .ok (.getfield 23, 3) := by decide +kernel
theorem eX0_readsSea_54 : decode mX0_readsSea.2.1 54 = .ok (.iconst 1, 1) := by decide +kernel
theorem eX0_readsSea_55 : decode mX0_readsSea.2.1 55 = .ok (.iadd, 1) := by decide +kernel
theorem eX0_readsSea_56 : decode mX0_readsSea.2.1 56 = .ok (.putfield 23, 3) := by decide +kernel
theorem eX0_readsSea_59 : decode mX0_readsSea.2.1 59 = .ok (.aload_n 0, 1) := by decide +kernel
theorem eX0_readsSea_60 : decode mX0_readsSea.2.1 60 = .ok (.invokevirtual 36, 3) := by decide +kernel
theorem eX0_readsSea_63 : decode mX0_readsSea.2.1 63 = .ok (.iinc 1 1, 3) := by decide +kernel
theorem eX0_readsSea_66 : decode mX0_readsSea.2.1 66 = .ok (.goto (-39), 3) := by decide +kernel
theorem eX0_readsSea_69 : decode mX0_readsSea.2.1 69 = .ok (.aload_n 0, 1) := by decide +kernel
theorem eX0_readsSea_70 : decode mX0_readsSea.2.1 70 = .ok (.getfield 26, 3) := by decide +kernel
theorem eX0_readsSea_73 : decode mX0_readsSea.2.1 73 = .ok (.ifCond .eq 18, 3) := by decide +kernel
theorem eX0_readsSea_76 : decode mX0_readsSea.2.1 76 = .ok (.aload_n 0, 1) := by decide +kernel
theorem eX0_readsSea_77 : decode mX0_readsSea.2.1 77 = .ok (.getfield 23, 3) := by decide +kernel
theorem eX0_readsSea_80 : decode mX0_readsSea.2.1 80 = .ok (.aload_n 0, 1) := by decide +kernel
theorem eX0_readsSea_81 : decode mX0_readsSea.2.1 81 = .ok (.getfield 19, 3) := by decide +kernel
theorem eX0_readsSea_84 : decode mX0_readsSea.2.1 84 = .ok (.if_icmp .ne 7, 3) := by decide +kernel
theorem eX0_readsSea_87 : decode mX0_readsSea.2.1 87 = .ok (.iconst 1, 1) := by decide +kernel
theorem eX0_readsSea_88 : decode mX0_readsSea.2.1 88 = .ok (.goto 4, 3) := by decide +kernel
theorem eX0_readsSea_91 : decode mX0_readsSea.2.1 91 = .ok (.iconst 0, 1) := by decide +kernel
theorem eX0_readsSea_92 : decode mX0_readsSea.2.1 92 = .ok (.istore_n 1, 1) := by decide +kernel
theorem eX0_readsSea_93 : decode mX0_readsSea.2.1 93 = .ok (.aload_n 0, 1) := by decide +kernel
theorem eX0_readsSea_94 : decode mX0_readsSea.2.1 94 = .ok (.iconst 0, 1) := by decide +kernel
theorem eX0_readsSea_95 : decode mX0_readsSea.2.1 95 = .ok (.putfield 19, 3) := by decide +kernel
theorem eX0_readsSea_98 : decode mX0_readsSea.2.1 98 = .ok (.iload_n 1, 1) := by decide +kernel
theorem eX0_readsSea_99 : decode mX0_readsSea.2.1 99 = .ok (.ifCond .eq 28, 3) := by decide +kernel
theorem eX0_readsSea_102 : decode mX0_readsSea.2.1 102 = .ok (.new 43, 3) := by decide +kernel
theorem eX0_readsSea_105 : decode mX0_readsSea.2.1 105 = .ok (.dup, 1) := by decide +kernel
theorem eX0_readsSea_106 : decode mX0_readsSea.2.1 106 = .ok (.aload_n 0, 1) := by decide +kernel
theorem eX0_readsSea_107 : decode mX0_readsSea.2.1 107 = .ok (.getfield 15, 3) := by decide +kernel
theorem eX0_readsSea_110 : decode mX0_readsSea.2.1 110 = .ok (.aload_n 0, 1) := by decide +kernel
theorem eX0_readsSea_111 : decode mX0_readsSea.2.1 111 = .ok (.getfield 30, 3) := by decide +kernel
theorem eX0_readsSea_114 : decode mX0_readsSea.2.1 114 = .ok (.invokestatic 45, 3) := by decide +kernel
theorem eX0_readsSea_117 : decode mX0_readsSea.2.1 117 = .ok (.aload_n 0, 1) := by decide +kernel
theorem eX0_readsSea_118 : decode mX0_readsSea.2.1 118 = .ok (.getfield 33, 3) := by decide +kernel
theorem eX0_readsSea_121 : decode mX0_readsSea.2.1 121 = .ok (.invokespecial 51, 3) := by decide +kernel
theorem eX0_readsSea_124 : decode mX0_readsSea.2.1 124 = .ok (.goto 4, 3) := by decide +kernel
theorem eX0_readsSea_127 : decode mX0_readsSea.2.1 127 = .ok (.aconst_null, 1) := by decide +kernel
theorem eX0_readsSea_128 : decode mX0_readsSea.2.1 128 = .ok (.areturn, 1) := by decide +kernel
theorem lpR (hn : n ≤ 100) (hA : RA R n) (hd : 19 ≤ d) {h0 : Hp} (hX : ∀ q a b ss r x1 h', RdAt h' e n R a b ss r → InR R n q a b ss r → (q = 0 ∨ ¬ pAt R n (a, b) 59 = true) → Same e 3 h0 h' → AW l G mX0_readsSea d 2 102 Q 0 0 h' [some (.ref e), some (.int x1)] [] 69) : ∀ (q9 a : Nat) (b : Bool) (ss : List Int32) (r y : Int32) (h : Hp), q9 ≤ 9 → y = nI (10 - q9) → RdAt h e n R a b ss r → InR R n q9 a b ss r → Same e 3 h0 h → AW l G mX0_readsSea d 2 102 Q 0 0 h [some (.ref e), some (.int y)] [] 27 := by
  intro q9
  induction q9 using Nat.strongRecOn with
  | _ q9 ih =>
    intro a b ss r y h hq hy hR hI hs
    subst hy
    have hIa := hI.1
    refine aw_iload_n (pc' := 28) eX0_readsSea_27 rfl rfl ?_
    refine aw_bipush (pc' := 30) (v := 10) eX0_readsSea_28 rfl (by decide) ?_
    refine aw_icmp_ge (pc' := 33) (tgt := 69) eX0_readsSea_30 rfl (by decide) (fun c_30 => ?_) (fun c_30 => ?_)
    · exact hX _ a b ss r _ _ hR hI (Or.inl (by have := ge_nI (a := 10 - q9) (b := 10) (by omega) (by omega) c_30; omega)) hs
    · obtain ⟨q, rfl⟩ : ∃ q, q9 = q + 1 := ⟨q9 - 1, by have := nge_nI (a := 10 - q9) (b := 10) (by omega) (by omega) c_30; omega⟩
      refine aw_aload_n (pc' := 34) eX0_readsSea_33 rfl rfl trivial ?_
      refine aw_Oget (pc' := 37) (ci := 0) (kf := 4) (N := 7) (.int (zb b)) (hR).1 eX0_readsSea_34 rfl rfl rfl inX0 (by decide) q187 rfl ?_
      refine aw_if_eq (pc' := 40) (tgt := 69) eX0_readsSea_37 rfl (by decide) (fun c_37 => ?_) (fun c_37 => ?_)
      · exact hX _ a b ss r _ _ hR hI (Or.inr (pAt_nb (zb_eq0.mp c_37))) hs
      · refine aw_aload_n (pc' := 41) eX0_readsSea_40 rfl rfl trivial ?_
        refine aw_callv (pc' := 44) (nn := 0) (c_X0_sign (d := d - 1) hR hn hI.1 (by omega)) eX0_readsSea_41 rfl ⟨q424, q427, q59⟩ q426 q8 ⟨rfl, by decide +kernel, by decide +kernel, by decide +kernel⟩ rfl (hR).ob rfl ⟨by omega, by decide⟩ ⟨by omega, by omega⟩ rfl (Nat.le_of_ble_eq_true rfl) (fun v1 h2 hq3 => ?_)
        obtain ⟨rfl, rfl⟩ := hq3
        dsimp only [Option.toList, List.cons_append, List.nil_append]
        refine aw_bipush (pc' := 46) (v := 59) eX0_readsSea_44 rfl (by decide) ?_
        refine aw_icmp_ne (pc' := 49) (tgt := 69) eX0_readsSea_46 rfl (by decide) (fun c_46 => ?_) (fun c_46 => ?_)
        · exact hX _ a b ss r _ _ hR hI (Or.inr (fun z => no_at hA (c := 59) (by omega) c_46 z)) hs
        · obtain rfl : b = true := zb_ne0.mp c_37
          have p59 : pAt R n (a, true) 59 = true := yes_at hA (c := 59) (by omega) rfl c_46
          refine aw_aload_n (pc' := 50) eX0_readsSea_49 rfl rfl trivial ?_
          refine aw_dup (pc' := 51) eX0_readsSea_50 rfl rfl ?_
          refine aw_Oget (pc' := 54) (ci := 0) (kf := 3) (N := 7) (.int (nI (a))) (hR).1 eX0_readsSea_51 rfl rfl rfl inX0 (by decide) q186 rfl ?_
          refine aw_iconst (pc' := 55) (v := 1) eX0_readsSea_54 rfl (by decide) ?_
          refine aw_iadd (pc' := 56) eX0_readsSea_55 rfl ?_
          refine aw_Rat (pc' := 59) (a + 1) hR eX0_readsSea_56 rfl q186 (nI_1 (a)) (fun h6 hR4 hs5 => ?_)
          refine aw_aload_n (pc' := 60) eX0_readsSea_59 rfl rfl trivial ?_
          refine aw_callv (pc' := 63) (nn := 0) (c_X0_clause (d := d - 1) hR4 hn hA (pAt_lt p59) (by have := hI.2.1; omega) (by omega)) eX0_readsSea_60 rfl ⟨q420, q423, q59⟩ q422 q7 ⟨rfl, by decide +kernel, by decide +kernel, by decide +kernel⟩ rfl (hR4).ob rfl ⟨by omega, by decide⟩ ⟨by omega, by omega⟩ rfl (Nat.le_of_ble_eq_true rfl) (fun v9 h10 hq11 => ?_)
          obtain ⟨rfl, ss1, C, hC, hR7, hs8⟩ := hq11
          have hT12 := hs5.tr hs8
          dsimp only [Option.toList, List.cons_append, List.nil_append]
          refine aw_iinc (pc' := 66) eX0_readsSea_63 rfl rfl rfl (by decide) ?_
          dsimp only [zst, zst2, zcut]
          refine aw_goto eX0_readsSea_66 (by decide) (tgt := 27) ?_
          exact ih q (by omega) _ _ _ _ _ _ (by omega) (by rw [show 10 - q = 10 - (q + 1) + 1 by omega]; exact nI_inc _) hR7 (hI.more p59 hC) (hs.tr hT12)
theorem endR {x1 : Int32} {h0 : Hp} (hn : n ≤ 100) (han : a ≤ n) (he : e + 3 ≤ h0.1 + 16) (hl : b = true → ss.length < 100) (hR : RdAt h e n R a b ss r) (hs : Same e 3 h0 h) (hd : 2 ≤ d)
    (hN : ∀ h', ¬ (b = true ∧ a = n) → RdAt h' e 0 R a b ss r → Same e 3 h0 h' → Q (some .null) h')
    (hY : ∀ (h' : Hp) (f6 : Nat → Int32), b = true → a = n → OA h' (h0.1 + 16) (.inr (2, [.ref (h0.1 + 17), .int r])) → OA h' (h0.1 + 17) (.inl (0, (ss.length, .inl f6))) → (∀ i, i < ss.length → f6 i = ss.getD i 0) → RdAt h' e 0 R a b ss r → h'.1 = h0.1 + 2 → (∀ x, x < h0.1 + 16 → x < e ∨ e + 3 ≤ x → h'.2 x = h0.2 x) → Q (some (.ref (h0.1 + 16))) h') : AW l G mX0_readsSea d 2 102 Q 0 0 h [some (.ref e), some (.int x1)] [] 69 := by
  have h16 := hR.1.2
  refine aw_aload_n (pc' := 70) eX0_readsSea_69 rfl rfl trivial ?_
  refine aw_Oget (pc' := 73) (ci := 0) (kf := 4) (N := 7) (.int (zb b)) (hR).1 eX0_readsSea_70 rfl rfl rfl inX0 (by decide) q187 rfl ?_
  refine aw_if_eq (pc' := 76) (tgt := 91) eX0_readsSea_73 rfl (by decide) (fun c_73 => ?_) (fun c_73 => ?_)
  · refine aw_iconst (pc' := 92) (v := 0) eX0_readsSea_91 rfl (by decide) ?_
    refine aw_istore_n (pc' := 93) eX0_readsSea_92 rfl (by decide) ?_
    dsimp only [zst, zst2, zcut]
    refine aw_aload_n (pc' := 94) eX0_readsSea_93 rfl rfl trivial ?_
    refine aw_iconst (pc' := 95) (v := 0) eX0_readsSea_94 rfl (by decide) ?_
    refine aw_Rlen (pc' := 98) 0 hR eX0_readsSea_95 rfl q184 ⟨rfl, Nat.zero_le _⟩ (fun h3 hR1 hs2 => ?_)
    have hT4 := hs.tr hs2
    refine aw_iload_n (pc' := 99) eX0_readsSea_98 rfl rfl ?_
    refine aw_if_eq (pc' := 102) (tgt := 127) eX0_readsSea_99 rfl (by decide) (fun c_99 => ?_) (fun c_99 => ?_)
    · refine aw_null (pc' := 128) eX0_readsSea_127 rfl ?_
      refine aw_ret (v := some .null) eX0_readsSea_128 ⟨rfl, rfl⟩ (by omega) (by omega) rfl ?_
      exact hN _ (fun z => by rw [zb_eq0.mp c_73] at z; exact absurd z.1 (by decide)) hR1 hT4
    · exact absurd c_99 (by decide)
  · refine aw_aload_n (pc' := 77) eX0_readsSea_76 rfl rfl trivial ?_
    refine aw_Oget (pc' := 80) (ci := 0) (kf := 3) (N := 7) (.int (nI (a))) (hR).1 eX0_readsSea_77 rfl rfl rfl inX0 (by decide) q186 rfl ?_
    refine aw_aload_n (pc' := 81) eX0_readsSea_80 rfl rfl trivial ?_
    refine aw_Oget (pc' := 84) (ci := 0) (kf := 2) (N := 7) (.int (nI n)) (hR).1 eX0_readsSea_81 rfl rfl rfl inX0 (by decide) q184 rfl ?_
    refine aw_icmp_ne (pc' := 87) (tgt := 91) eX0_readsSea_84 rfl (by decide) (fun c_84 => ?_) (fun c_84 => ?_)
    · refine aw_iconst (pc' := 92) (v := 0) eX0_readsSea_91 rfl (by decide) ?_
      refine aw_istore_n (pc' := 93) eX0_readsSea_92 rfl (by decide) ?_
      dsimp only [zst, zst2, zcut]
      refine aw_aload_n (pc' := 94) eX0_readsSea_93 rfl rfl trivial ?_
      refine aw_iconst (pc' := 95) (v := 0) eX0_readsSea_94 rfl (by decide) ?_
      refine aw_Rlen (pc' := 98) 0 hR eX0_readsSea_95 rfl q184 ⟨rfl, Nat.zero_le _⟩ (fun h7 hR5 hs6 => ?_)
      have hT8 := hs.tr hs6
      refine aw_iload_n (pc' := 99) eX0_readsSea_98 rfl rfl ?_
      refine aw_if_eq (pc' := 102) (tgt := 127) eX0_readsSea_99 rfl (by decide) (fun c_99 => ?_) (fun c_99 => ?_)
      · refine aw_null (pc' := 128) eX0_readsSea_127 rfl ?_
        refine aw_ret (v := some .null) eX0_readsSea_128 ⟨rfl, rfl⟩ (by omega) (by omega) rfl ?_
        exact hN _ (fun z => c_84 (by rw [z.2])) hR5 hT8
      · exact absurd c_99 (by decide)
    · refine aw_iconst (pc' := 88) (v := 1) eX0_readsSea_87 rfl (by decide) ?_
      refine aw_goto eX0_readsSea_88 (by decide) (tgt := 92) ?_
      refine aw_istore_n (pc' := 93) eX0_readsSea_92 rfl (by decide) ?_
      dsimp only [zst, zst2, zcut]
      refine aw_aload_n (pc' := 94) eX0_readsSea_93 rfl rfl trivial ?_
      refine aw_iconst (pc' := 95) (v := 0) eX0_readsSea_94 rfl (by decide) ?_
      refine aw_Rlen (pc' := 98) 0 hR eX0_readsSea_95 rfl q184 ⟨rfl, Nat.zero_le _⟩ (fun h11 hR9 hs10 => ?_)
      have hT12 := hs.tr hs10
      refine aw_iload_n (pc' := 99) eX0_readsSea_98 rfl rfl ?_
      refine aw_if_eq (pc' := 102) (tgt := 127) eX0_readsSea_99 rfl (by decide) (fun c_99 => ?_) (fun c_99 => ?_)
      · exact absurd c_99 (by decide)
      · have hlt : ss.length < 100 := hl (zb_ne0.mp c_73)
        have e0 := hT12.1
        have f0 := hT12.2
        refine aw_Onwo (pc' := 105) (ci := 2) (N := 2) (fs := [.null, .int 0]) eX0_readsSea_102 rfl rfl inX2 tyX2_ok q557 q558 q71 (fun j hj => by rcases (by omega : j = 0 ∨ j = 1) with rfl | rfl <;> rfl) (fun _ => rfl) (by omega) (by omega) (fun h5 hS5 hN5 => ?_)
        have hR5 := hR9.nw hN5 (by omega)
        have e5 := hN5.1
        rw [e0] at hS5 ⊢
        refine aw_dup (pc' := 106) eX0_readsSea_105 rfl rfl ?_
        refine aw_aload_n (pc' := 107) eX0_readsSea_106 rfl rfl trivial ?_
        refine aw_Oget (pc' := 110) (ci := 0) (kf := 1) (N := 7) (.ref (e + 2)) (hR5).1 eX0_readsSea_107 rfl rfl rfl inX0 (by decide) q183 rfl ?_
        refine aw_aload_n (pc' := 111) eX0_readsSea_110 rfl rfl trivial ?_
        refine aw_Oget (pc' := 114) (ci := 0) (kf := 5) (N := 7) (.int (nI (ss).length)) (hR5).1 eX0_readsSea_111 rfl rfl rfl inX0 (by decide) q188 rfl ?_
        obtain ⟨f, hfs, hf9⟩ := hR5.2.2
        refine aw_calls (pc' := 117) (nn := 2) (c_J7_copyOf (d := d - 1) hfs (by omega) hlt (by omega) (by omega)) eX0_readsSea_114 rfl ⟨q559, q561, q65⟩ q560 ⟨by decide +kernel, by decide +kernel, by decide +kernel⟩ rfl ⟨by omega, by decide⟩ ⟨by omega, by omega⟩ rfl (Nat.le_of_ble_eq_true rfl) (fun v13 h14 hq15 => ?_)
        obtain ⟨rfl, h6a, ⟨f6, h6b, h6c⟩, h6d⟩ := hq15
        have hN6 : NewS h5 h14 := ⟨h6a, h6d⟩
        have hR6 := hR5.nw hN6 (by omega)
        have hS6 := hS5.nw hN6 (by omega)
        rw [show h5.1 + 16 = h0.1 + 17 by omega] at h6c h6d ⊢
        dsimp only [Option.toList, List.cons_append, List.nil_append]
        refine aw_aload_n (pc' := 118) eX0_readsSea_117 rfl rfl trivial ?_
        refine aw_Oget (pc' := 121) (ci := 0) (kf := 6) (N := 7) (.int r) (hR6).1 eX0_readsSea_118 rfl rfl rfl inX0 (by decide) q189 rfl ?_
        refine aw_calli (pc' := 124) (nn := 2) (c_X2_init (d := d - 1) hS6 (by omega)) eX0_readsSea_121 rfl ⟨q571, q573, q71⟩ q572 rfl rfl ⟨by decide +kernel, by decide +kernel, by decide +kernel⟩ rfl ⟨by omega, by decide⟩ ⟨by omega, by omega⟩ rfl (Nat.le_of_ble_eq_true rfl) (fun v16 h17 hq18 => ?_)
        obtain ⟨rfl, hS7, hs7⟩ := hq18
        dsimp only [Option.toList, List.cons_append, List.nil_append]
        refine aw_goto eX0_readsSea_124 (by decide) (tgt := 128) ?_
        refine aw_ret (v := some (.ref _)) eX0_readsSea_128 ⟨rfl, rfl⟩ (by omega) (by omega) rfl ?_
        refine hY _ f6 (zb_ne0.mp c_73) ((nI_eq (by omega) (by omega)).mp c_84) hS7 (h6c.fr hs7 (by omega)) (fun i hi => (h6b i hi).trans (hf9 i hi)) (hR6.fr hs7 (by omega)) (by rw [hs7.1]; omega) (fun x hx1 hx2 => ?_)
        rw [hs7.2 x (by omega), h6d x (by omega), hN5.2 x (by omega)]
        exact f0 x hx2
theorem c_X0_readsSea (hR : RdAt h e n R a b ss r) (hn : n ≤ 100) (hA : RA R n) (he : e + 3 ≤ h.1 + 16) (hd : 20 ≤ d) : Ct l G mX0_readsSea yX0_readsSea d 2 102 [.ref e] h (fun v h' => (¬ pGood n (pRA R n mLe N0 mWo) = true ∧ v = some .null ∧ ∃ b' ss' , (∃ r' , (∀ N, (pRA R n mLe N mWo).1 = ((pRA R n mLe N0 mWo).1.1, b')) ∧ RdAt h' e 0 R (pRA R n mLe N0 mWo).1.1 b' ss' r') ∧ Same e 3 h h') ∨ (pGood n (pRA R n mLe N0 mWo) = true ∧ v = some (.ref (h.1 + 16)) ∧ ∃ (L : Nat) (f6 : Nat → Int32) (rr : Int32), OA h' (h.1 + 16) (.inr (2, [.ref (h.1 + 17), .int rr])) ∧ OA h' (h.1 + 17) (.inl (0, (L, .inl f6))) ∧ L ≤ 100 ∧ (∃ a' b' ss', RdAt h' e 0 R a' b' ss' rr) ∧ h'.1 = h.1 + 2 ∧ (∀ x, x < h.1 + 16 → x < e ∨ e + 3 ≤ x → h'.2 x = h.2 x) ∧ ∀ N, (pRA R n mLe N mWo).2 = (N 3 + (cAd f6 N L).1, rr))) := by
  refine ct_of (lv := [some (.ref e), none]) (by decide +kernel) rfl (fun z => by cases z) (fun _ => rfl) (fun _ => Nat.le_of_ble_eq_true rfl) ?_
  refine aw_aload_n (pc' := 1) eX0_readsSea_0 rfl rfl trivial ?_
  refine aw_iconst (pc' := 2) (v := 0) eX0_readsSea_1 rfl (by decide) ?_
  refine aw_Rat (pc' := 5) (0) hR eX0_readsSea_2 rfl q186 rfl (fun h3 hR1 hs2 => ?_)
  refine aw_aload_n (pc' := 6) eX0_readsSea_5 rfl rfl trivial ?_
  refine aw_iconst (pc' := 7) (v := 1) eX0_readsSea_6 rfl (by decide) ?_
  refine aw_Rfit (pc' := 10) true hR1 eX0_readsSea_7 rfl q187 rfl (fun h6 hR4 hs5 => ?_)
  have hT7 := hs2.tr hs5
  refine aw_aload_n (pc' := 11) eX0_readsSea_10 rfl rfl trivial ?_
  refine aw_iconst (pc' := 12) (v := 0) eX0_readsSea_11 rfl (by decide) ?_
  refine aw_Rstp (pc' := 15) hR4 eX0_readsSea_12 rfl q188 rfl (fun h10 hR8 hs9 => ?_)
  have hT11 := hT7.tr hs9
  refine aw_aload_n (pc' := 16) eX0_readsSea_15 rfl rfl trivial ?_
  refine aw_bipush (pc' := 18) (v := 30) eX0_readsSea_16 rfl (by decide) ?_
  refine aw_Rroom (pc' := 21) hR8 eX0_readsSea_18 rfl q189 (fun h14 hR12 hs13 => ?_)
  have hT15 := hT11.tr hs13
  refine aw_aload_n (pc' := 22) eX0_readsSea_21 rfl rfl trivial ?_
  refine aw_callv (pc' := 25) (nn := 0) (c_X0_clause (d := d - 1) hR12 hn hA (Nat.zero_le n) (Nat.le_refl 0) (by omega)) eX0_readsSea_22 rfl ⟨q420, q423, q59⟩ q422 q7 ⟨rfl, by decide +kernel, by decide +kernel, by decide +kernel⟩ rfl (hR12).ob rfl ⟨by omega, by decide⟩ ⟨by omega, by omega⟩ rfl (Nat.le_of_ble_eq_true rfl) (fun v18 h19 hq20 => ?_)
  obtain ⟨rfl, ss1, C, hC, hR16, hs17⟩ := hq20
  have hT21 := hT15.tr hs17
  dsimp only [Option.toList, List.cons_append, List.nil_append]
  refine aw_iconst (pc' := 26) (v := 1) eX0_readsSea_25 rfl (by decide) ?_
  refine aw_istore_n (pc' := 27) eX0_readsSea_26 rfl (by decide) ?_
  dsimp only [zst, zst2, zcut]
  refine lpR hn hA (by omega) (fun q a9 b9 ss9 r9 x1 h9 hR9 hI9 hz hs9 => ?_) 9 _ _ _ _ _ _ (by omega) rfl hR16 (InR.start hC) hT21
  obtain ⟨k1, k2⟩ := (hI9.fin hz).resolve_right (by omega)
  refine endR hn hI9.1 he (fun hb => (k2 hb).1) hR9 hs9 (by omega) (fun h' hb hR' hs' => Or.inl ⟨?_, rfl, b9, ss9, ⟨r9, fun N => by rw [k1 N, k1 N0], RdAt.cv hR' (by rw [k1 N0]) rfl⟩, hs'⟩) (fun h' f6 hb1 ha1 y1 y2 y3 y4 y5 y6 => Or.inr ⟨?_, rfl, ss9.length, f6, r9, y1, y2, by have := (k2 hb1).1; omega, ⟨_, _, _, y4⟩, y5, y6, fun N => ?_⟩)
  · unfold pGood
    rw [k1 N0]
    intro z
    simp only [Bool.and_eq_true, decide_eq_true_eq] at z
    exact hb z
  · unfold pGood
    rw [k1 N0, hb1, ha1]
    simp
  · obtain ⟨D, hD⟩ := (k2 hb1).2
    rw [(hD N).2, cAd_run f6 N ss9 y3, (hD N).1]
end C13
