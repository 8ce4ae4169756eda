/-! the model: a new teller; tapes; judging; what one may be taken for -/
section M23
variable {l : Launch} {G : GT} {u : Nat} {U U1 : MS} {d n m t : Nat} {g : Nat → Int32} {h : Hp} {Q : Option Value → Hp → Prop}
/-- the model with another row of longs -/
def msL (U : MS) (j : Nat) (f : Nat → Int64) : MS := (U.1, U.2.1, fun k => if k = j then f else U.2.2 k)
theorem msL_eq (U : MS) (j : Nat) (f : Nat → Int64) : (msL U j f).2.2 j = f := by simp [msL]
theorem msL_ne {U : MS} {j k : Nat} {f : Nat → Int64} (h : k ≠ j) : (msL U j f).2.2 k = U.2.2 k := by simp [msL, h]
theorem msL_set (U : MS) (j : Nat) (f f' : Nat → Int64) : msL (msL U j f) j f' = msL U j f' := by
  unfold msL
  congr 2
  funext k
  by_cases h : k = j <;> simp [h]
theorem mupL_msL (U : MS) (j i : Nat) (x : Int64) : mupL U j i x = msL U j (vp_updL (U.2.2 j) i x) := rfl
theorem MAt.extL {A : Nat → Nat → Int64} (hW : MAt h u U) (he : ∀ j, 17 ≤ j → j ≤ 18 → ∀ i, i < mlen j → U.2.2 j i = A j i) : MAt h u (U.1, U.2.1, A) :=
  ⟨hW.1, hW.2.1, hW.2.2.1, fun k h1 h9 => by
    obtain ⟨f, e1, e2⟩ := hW.2.2.2 k h1 h9
    exact ⟨f, e1, fun i hi => (e2 i hi).trans (he k h1 h9 i hi)⟩⟩
theorem MAt.gsL {j : Nat} {f f' : Nat → Int64} (hM : MAt h u (msL U j f)) (he : ∀ i, i < mlen j → f i = f' i) : MAt h u (msL U j f') := by
  refine hM.extL (A := (msL U j f').2.2) fun k h1 h2 i hi => ?_
  by_cases hj : k = j
  · subst hj
    rw [msL_eq, msL_eq]
    exact he i hi
  · rw [msL_ne hj, msL_ne hj]
theorem MAt.idL {j : Nat} {f : Nat → Int64} (hM : MAt h u U) (he : ∀ i, i < mlen j → U.2.2 j i = f i) : MAt h u (msL U j f) := by
  refine hM.extL (A := (msL U j f).2.2) fun k h1 h2 i hi => ?_
  by_cases hj : k = j
  · subst hj
    rw [msL_eq]
    exact he i hi
  · rw [msL_ne hj]
theorem updL_if (f : Nat → Int64) (i j : Nat) (x : Int64) : vp_updL f i x j = if j = i then x else f j := rfl
def sNew (g : Nat → Int32) (m : Nat) (k v w : Int32) : Nat → Int32 := fun j => if j = 60 then nI (m + 1) else if j = 10 * m then k else if j = 10 * m + 1 then v else if j = 10 * m + 2 then w else if 10 * m ≤ j ∧ j < 10 * m + 10 then 0 else g j
def sTeller (g : Nat → Int32) (m : Nat) (k v w : Int32) : Int32 × (Nat → Int32) := if bIn k 0 6 = true then if bIn v 0 9 = true ∧ bIn w 0 20 = true then if m = 6 then (-4, g) else (nI m, sNew g m k v w) else (-2, g) else (-1, g)

abbrev mX7_teller : MT := (RX7, cX7_teller, 6, (some .int), false)
theorem eX7_teller_0 : decode mX7_teller.2.1 0 = .ok (.iload_n 1, 1) := by decide +kernel
theorem eX7_teller_1 : decode mX7_teller.2.1 1 = .ok (.iconst 0, 1) := by decide +kernel
theorem eX7_teller_2 : decode mX7_teller.2.1 2 = .ok (.bipush 6, 2) := by decide +kernel
theorem eX7_teller_4 : decode mX7_teller.2.1 4 = .ok (.invokestatic 80, 3) := by decide +kernel
theorem eX7_teller_7 : decode mX7_teller.2.1 7 = .ok (.ifCond .ne 5, 3) := by decide +kernel
theorem eX7_teller_10 : decode mX7_teller.2.1 10 = .ok (.iconst (-1), 1) := by decide +kernel
theorem eX7_teller_11 : decode mX7_teller.2.1 11 = .ok (.ireturn, 1) := by decide +kernel
theorem eX7_teller_12 : decode mX7_teller.2.1 12 = .ok (.iload_n 2, 1) := by decide +kernel
theorem eX7_teller_13 : decode mX7_teller.2.1 13 = .ok (.iconst 0, 1) := by decide +kernel
theorem eX7_teller_14 : decode mX7_teller.2.1 14 = .ok (.bipush 9, 2) := by decide +kernel
theorem eX7_teller_16 : decode mX7_teller.2.1 16 = .ok (.invokestatic 80, 3) := by decide +kernel
theorem eX7_teller_19 : decode mX7_teller.2.1 19 = .ok (.ifCond .eq 13, 3) := by decide +kernel
theorem eX7_teller_22 : decode mX7_teller.2.1 22 = .ok (.iload_n 3, 1) := by decide +kernel
theorem eX7_teller_23 : decode mX7_teller.2.1 23 = .ok (.iconst 0, 1) := by decide +kernel
theorem eX7_teller_24 : decode mX7_teller.2.1 24 = .ok (.bipush 20, 2) := by decide +kernel
theorem eX7_teller_26 : decode mX7_teller.2.1 26 = .ok (.invokestatic 80, 3) := by decide +kernel
theorem eX7_teller_29 : decode mX7_teller.2.1 29 = .ok (.ifCond .ne 6, 3) := by decide +kernel
theorem eX7_teller_32 : decode mX7_teller.2.1 32 = .ok (.bipush (-2), 2) := by decide +kernel
theorem eX7_teller_34 : decode mX7_teller.2.1 34 = .ok (.ireturn, 1) := by decide +kernel
theorem eX7_teller_35 : decode mX7_teller.2.1 35 = .ok (.aload_n 0, 1) := by decide +kernel
theorem eX7_teller_36 : decode mX7_teller.2.1 36 = .ok (.getfield 15, 3) := by decide +kernel
theorem eX7_teller_39 : decode mX7_teller.2.1 39 = .ok (.bipush 60, 2) := by decide +kernel
theorem eX7_teller_41 : decode mX7_teller.2.1 41 = .ok (.iaload, 1) := by decide +kernel
theorem eX7_teller_42 : decode mX7_teller.2.1 42 = .ok (.istore 4, 2) := by decide +kernel
theorem eX7_teller_44 : decode mX7_teller.2.1 44 = .ok (.iload 4, 2) := by decide +kernel
theorem eX7_teller_46 : decode mX7_teller.2.1 46 = .ok (.bipush 6, 2) := by decide +kernel
theorem eX7_teller_48 : decode mX7_teller.2.1 48 = .ok (.if_icmp .ne 6, 3) := by decide +kernel
theorem eX7_teller_51 : decode mX7_teller.2.1 51 = .ok (.bipush (-4), 2) := by decide +kernel
theorem eX7_teller_53 : decode mX7_teller.2.1 53 = .ok (.ireturn, 1) := by decide +kernel
theorem eX7_teller_54 : decode mX7_teller.2.1 54 = .ok (.iconst 0, 1) := by decide +kernel
theorem eX7_teller_55 : decode mX7_teller.2.1 55 = .ok (.istore 5, 2) := by decide +kernel
theorem eX7_teller_57 : decode mX7_teller.2.1 57 = .ok (.iload 5, 2) := by decide +kernel
theorem eX7_teller_59 : decode mX7_teller.2.1 59 = .ok (.bipush 10, 2) := by decide +kernel
theorem eX7_teller_61 : decode mX7_teller.2.1 61 = .ok (.if_icmp .ge 23, 3) := by decide +kernel
theorem eX7_teller_64 : decode mX7_teller.2.1 64 = .ok (.aload_n 0, 1) := by decide +kernel
theorem eX7_teller_65 : decode mX7_teller.2.1 65 = .ok (.getfield 15, 3) := by decide +kernel
theorem eX7_teller_68 : decode mX7_teller.2.1 68 = .ok (.bipush 10, 2) := by decide +kernel
theorem eX7_teller_70 : decode mX7_teller.2.1 70 = .ok (.iload 4, 2) := by decide +kernel
theorem eX7_teller_72 : decode mX7_teller.2.1 72 = .ok (.imul, 1) := by decide +kernel
theorem eX7_teller_73 : decode mX7_teller.2.1 73 = .ok (.iload 5, 2) := by decide +kernel
theorem eX7_teller_75 : decode mX7_teller.2.1 75 = .ok (.iadd, 1) := by decide +kernel
theorem eX7_teller_76 : decode mX7_teller.2.1 76 = .ok (.iconst 0, 1) := by decide +kernel
theorem eX7_teller_77 : decode mX7_teller.2.1 77 = .ok (.iastore, 1) := by decide +kernel
theorem eX7_teller_78 : decode mX7_teller.2.1 78 = .ok (.iinc 5 1, 3) := by decide +kernel
theorem eX7_teller_81 : decode mX7_teller.2.1 81 = .ok (.goto (-24), 3) := by decide +kernel
theorem eX7_teller_84 : decode mX7_teller.2.1 84 = .ok (.aload_n 0, 1) := by decide +kernel
theorem eX7_teller_85 : decode mX7_teller.2.1 85 = .ok (.getfield 15, 3) := by decide +kernel
theorem eX7_teller_88 : decode mX7_teller.2.1 88 = .ok (.bipush 10, 2) := by decide +kernel
theorem eX7_teller_90 : decode mX7_teller.2.1 90 = .ok (.iload 4, 2) := by decide +kernel
theorem eX7_teller_92 : decode mX7_teller.2.1 92 = .ok (.imul, 1) := by decide +kernel
theorem eX7_teller_93 : decode mX7_teller.2.1 93 = .ok (.iload_n 1, 1) := by decide +kernel
theorem eX7_teller_94 : decode mX7_teller.2.1 94 = .ok (.iastore, 1) := by decide +kernel
theorem eX7_teller_95 : decode mX7_teller.2.1 95 = .ok (.aload_n 0, 1) := by decide +kernel
theorem eX7_teller_96 : decode mX7_teller.2.1 96 = .ok (.getfield 15, 3) := by decide +kernel
theorem eX7_teller_99 : decode mX7_teller.2.1 99 = .ok (.bipush 10, 2) := by decide +kernel
theorem eX7_teller_101 : decode mX7_teller.2.1 101 = .ok (.iload 4, 2) := by decide +kernel
theorem eX7_teller_103 : decode mX7_teller.2.1 103 = .ok (.imul, 1) := by decide +kernel
theorem eX7_teller_104 : decode mX7_teller.2.1 104 = .ok (.iconst 1, 1) := by decide +kernel
theorem eX7_teller_105 : decode mX7_teller.2.1 105 = .ok (.iadd, 1) := by decide +kernel
theorem eX7_teller_106 : decode mX7_teller.2.1 106 = .ok (.iload_n 2, 1) := by decide +kernel
theorem eX7_teller_107 : decode mX7_teller.2.1 107 = .ok (.iastore, 1) := by decide +kernel
theorem eX7_teller_108 : decode mX7_teller.2.1 108 = .ok (.aload_n 0, 1) := by decide +kernel
theorem eX7_teller_109 : decode mX7_teller.2.1 109 = .ok (.getfield 15, 3) := by decide +kernel
theorem eX7_teller_112 : decode mX7_teller.2.1 112 = .ok (.bipush 10, 2) := by decide +kernel
theorem eX7_teller_114 : decode mX7_teller.2.1 114 = .ok (.iload 4, 2) := by decide +kernel
theorem eX7_teller_116 : decode mX7_teller.2.1 116 = .ok (.imul, 1) := by decide +kernel
theorem eX7_teller_117 : decode mX7_teller.2.1 117 = .ok (.iconst 2, 1) := by decide +kernel
theorem eX7_teller_118 : decode mX7_teller.2.1 118 = .ok (.iadd, 1) := by decide +kernel
theorem eX7_teller_119 : decode mX7_teller.2.1 119 = .ok (.iload_n 3, 1) := by decide +kernel
theorem eX7_teller_120 : decode mX7_teller.2.1 120 = .ok (.iastore, 1) := by decide +kernel
theorem eX7_teller_121 : decode mX7_teller.2.1 121 = .ok (.aload_n 0, 1) := by decide +kernel
theorem eX7_teller_122 : decode mX7_teller.2.1 122 = .ok (.getfield 15, 3) := by decide +kernel
theorem eX7_teller_125 : decode mX7_teller.2.1 125 = .ok (.bipush 60, 2) := by decide +kernel
theorem eX7_teller_127 : decode mX7_teller.2.1 127 = .ok (.dup2, 1) := by decide +kernel
theorem eX7_teller_128 : decode mX7_teller.2.1 128 = .ok (.iaload, 1) := by decide +kernel
theorem eX7_teller_129 : decode mX7_teller.2.1 129 = .ok (.iconst 1, 1) := by decide +kernel
theorem eX7_teller_130 : decode mX7_teller.2.1 130 = .ok (.iadd, 1) := by decide +kernel
theorem eX7_teller_131 : decode mX7_teller.2.1 131 = .ok (.iastore, 1) := by decide +kernel
theorem eX7_teller_132 : decode mX7_teller.2.1 132 = .ok (.iload 4, 2) := by decide +kernel
theorem eX7_teller_134 : decode mX7_teller.2.1 134 = .ok (.ireturn, 1) := by decide +kernel
theorem lp_X7_teller {V : MS} {g : Nat → Int32} {m : Nat} (hm : m < 6) {x1 x2 x3 : Int32} {h0 : Hp} (hQ : ∀ h' y', MAt h' u (mg V (fun q => if 10 * m ≤ q ∧ q < 10 * m + 10 then 0 else g q)) → Same u 19 h0 h' → AW l G mX7_teller d 0 0 Q 0 0 h' [some (.ref u), some (.int x1), some (.int x2), some (.int x3), some (.int (nI m)), some (.int y')] [] 84) : ∀ (j k : Nat) (y : Int32) (h : Hp), j = 10 - k → k ≤ 10 → y = nI k → MAt h u (mg V (fun q => if 10 * m ≤ q ∧ q < 10 * m + k then 0 else g q)) → Same u 19 h0 h → AW l G mX7_teller d 0 0 Q 0 0 h [some (.ref u), some (.int x1), some (.int x2), some (.int x3), some (.int (nI m)), some (.int y)] [] 57 := by
  intro j
  induction j using Nat.strongRecOn with
  | _ j ih =>
    intro k y h hj hk hy hM hs
    subst hy
    refine aw_iload (pc' := 59) eX7_teller_57 rfl rfl ?_
    refine aw_bipush (pc' := 61) (v := 10) eX7_teller_59 rfl (by decide) ?_
    refine aw_icmp_ge (pc' := 64) (tgt := 84) eX7_teller_61 rfl (by decide) (fun c_61 => ?_) (fun c_61 => ?_)
    · have c9 := ge_nI (b := 10) (by omega) (by omega) c_61
      obtain rfl : k = 10 := by omega
      exact hQ _ _ hM hs
    · have c9 := nge_nI (b := 10) (by omega) (by omega) c_61
      refine aw_aload_n (pc' := 65) eX7_teller_64 rfl rfl trivial ?_
      refine aw_Mref (pc' := 68) (kf := 0) 1 hM eX7_teller_65 rfl (by decide) rfl q789 ?_
      refine aw_bipush (pc' := 70) (v := 10) eX7_teller_68 rfl (by decide) ?_
      refine aw_iload (pc' := 72) eX7_teller_70 rfl rfl ?_
      refine aw_imul (pc' := 73) eX7_teller_72 rfl ?_
      refine aw_iload (pc' := 75) eX7_teller_73 rfl rfl ?_
      refine aw_iadd (pc' := 76) eX7_teller_75 rfl ?_
      refine aw_iconst (pc' := 77) (v := 0) eX7_teller_76 rfl (by decide) ?_
      refine aw_MastC (pc' := 78) 1 (10 * m + k) hM eX7_teller_77 rfl (by decide) (show vp_in _ 123 from (ix10 (i := m) (c := k) (by omega)).2) (ix10 (i := m) (c := k) (by omega)).1 (fun h3 hM1 hs2 => ?_)
      refine aw_iinc (pc' := 81) eX7_teller_78 rfl rfl rfl (by decide) ?_
      dsimp only [zst, zst2, zcut]
      refine aw_goto eX7_teller_81 (by decide) (tgt := 57) ?_
      refine ih (10 - (k + 1)) (by omega) (k + 1) _ _ rfl (by omega) (nI_inc k) ?_ (hs.tr hs2)
      have hM9 := hM1
      rw [mup_mg, mg_mg, mg_1] at hM9
      refine hM9.gx fun q hq => ?_
      rw [upd_if]
      show (if q = 10 * m + k then 0 else if 10 * m ≤ q ∧ q < 10 * m + k then 0 else g q) = _
      by_cases e : q = 10 * m + k
      · rw [if_pos e, if_pos (by omega)]
      · rw [if_neg e]
        by_cases e2 : 10 * m ≤ q ∧ q < 10 * m + k
        · rw [if_pos e2, if_pos (by omega)]
        · rw [if_neg e2, if_neg (by omega)]
theorem c_X7_teller (hM : MAt h u U) {m : Nat} (hm : mOk U m) (k v w : Int32) (hd : 1 ≤ d) : Ct l G mX7_teller yX7_teller d 0 0 [.ref u, .int k, .int v, .int w] h (fun r h' => r = some (.int (sTeller (U.1 1) m k v w).1) ∧ MAt h' u (mg U (sTeller (U.1 1) m k v w).2) ∧ Same u 19 h h') := by
  refine ct_of (lv := [some (.ref u), some (.int k), some (.int v), some (.int w), none, none]) (by decide +kernel) rfl (fun z => by cases z) (fun _ => rfl) (fun _ => Nat.le_of_ble_eq_true rfl) ?_
  refine aw_iload_n (pc' := 1) eX7_teller_0 rfl rfl ?_
  refine aw_iconst (pc' := 2) (v := 0) eX7_teller_1 rfl (by decide) ?_
  refine aw_bipush (pc' := 4) (v := 6) eX7_teller_2 rfl (by decide) ?_
  refine aw_calls (pc' := 7) (nn := 3) (c_X7_isIn (d := d - 1) _ _ _ (by omega)) eX7_teller_4 rfl ⟨q890, q892, q62⟩ q891 ⟨by decide +kernel, by decide +kernel, by decide +kernel⟩ rfl ⟨by omega, by decide⟩ ⟨by omega, by omega⟩ rfl (Nat.le_of_ble_eq_true rfl) (fun v1 h2 hq3 => ?_)
  obtain ⟨rfl, rfl⟩ := hq3
  dsimp only [Option.toList, List.cons_append, List.nil_append]
  refine aw_if_ne (pc' := 10) (tgt := 12) eX7_teller_7 rfl (by decide) (fun c_7 => ?_) (fun c_7 => ?_)
  · simp only [zb_eq0, Bool.not_eq_false, Bool.not_eq_true, decide_eq_true_eq, decide_eq_false_iff_not, Decidable.not_not] at c_7
    refine aw_iload_n (pc' := 13) eX7_teller_12 rfl rfl ?_
    refine aw_iconst (pc' := 14) (v := 0) eX7_teller_13 rfl (by decide) ?_
    refine aw_bipush (pc' := 16) (v := 9) eX7_teller_14 rfl (by decide) ?_
    refine aw_calls (pc' := 19) (nn := 3) (c_X7_isIn (d := d - 1) _ _ _ (by omega)) eX7_teller_16 rfl ⟨q890, q892, q62⟩ q891 ⟨by decide +kernel, by decide +kernel, by decide +kernel⟩ rfl ⟨by omega, by decide⟩ ⟨by omega, by omega⟩ rfl (Nat.le_of_ble_eq_true rfl) (fun v4 h5 hq6 => ?_)
    obtain ⟨rfl, rfl⟩ := hq6
    dsimp only [Option.toList, List.cons_append, List.nil_append]
    refine aw_if_eq (pc' := 22) (tgt := 32) eX7_teller_19 rfl (by decide) (fun c_19 => ?_) (fun c_19 => ?_)
    · refine aw_bipush (pc' := 34) (v := -2) eX7_teller_32 rfl (by decide) ?_
      refine aw_ret (v := some (.int _)) eX7_teller_34 ⟨rfl, rfl⟩ (by omega) (by omega) rfl ?_
      try simp only [zb_eq0, Bool.not_eq_false, Bool.not_eq_true, decide_eq_true_eq, decide_eq_false_iff_not, Decidable.not_not] at c_7 c_19
      exact ⟨by rw [sTeller, if_pos c_7, if_neg (by rw [c_19]; simp)], by rw [sTeller, if_pos c_7, if_neg (by rw [c_19]; simp), mg_id]; exact hM, Same.rf⟩
    · refine aw_iload_n (pc' := 23) eX7_teller_22 rfl rfl ?_
      refine aw_iconst (pc' := 24) (v := 0) eX7_teller_23 rfl (by decide) ?_
      refine aw_bipush (pc' := 26) (v := 20) eX7_teller_24 rfl (by decide) ?_
      refine aw_calls (pc' := 29) (nn := 3) (c_X7_isIn (d := d - 1) _ _ _ (by omega)) eX7_teller_26 rfl ⟨q890, q892, q62⟩ q891 ⟨by decide +kernel, by decide +kernel, by decide +kernel⟩ rfl ⟨by omega, by decide⟩ ⟨by omega, by omega⟩ rfl (Nat.le_of_ble_eq_true rfl) (fun v7 h8 hq9 => ?_)
      obtain ⟨rfl, rfl⟩ := hq9
      dsimp only [Option.toList, List.cons_append, List.nil_append]
      refine aw_if_ne (pc' := 32) (tgt := 35) eX7_teller_29 rfl (by decide) (fun c_29 => ?_) (fun c_29 => ?_)
      · simp only [zb_eq0, Bool.not_eq_false, Bool.not_eq_true, decide_eq_true_eq, decide_eq_false_iff_not, Decidable.not_not] at c_19 c_29
        refine aw_aload_n (pc' := 36) eX7_teller_35 rfl rfl trivial ?_
        refine aw_Mref (pc' := 39) (kf := 0) 1 hM eX7_teller_36 rfl (by decide) rfl q789 ?_
        refine aw_bipush (pc' := 41) (v := 60) eX7_teller_39 rfl (by decide) ?_
        refine aw_MaldC (pc' := 42) 1 60 hM eX7_teller_41 rfl (by decide) (by unfold vp_in; decide) (by decide) ?_
        refine aw_istore (pc' := 44) eX7_teller_42 rfl (by decide) ?_
        dsimp only [zst, zst2, zcut]
        refine aw_iload (pc' := 46) eX7_teller_44 rfl rfl ?_
        refine aw_bipush (pc' := 48) (v := 6) eX7_teller_46 rfl (by decide) ?_
        refine aw_icmp_ne (pc' := 51) (tgt := 54) eX7_teller_48 rfl (by decide) (fun c_48 => ?_) (fun c_48 => ?_)
        · rw [hm.1] at c_48
          have e6 : m ≠ 6 := fun z => c_48 (by rw [z]; rfl)
          have hm6 := hm.2
          rw [hm.1]
          refine aw_iconst (pc' := 55) (v := 0) eX7_teller_54 rfl (by decide) ?_
          refine aw_istore (pc' := 57) eX7_teller_55 rfl (by decide) ?_
          dsimp only [zst, zst2, zcut]
          refine lp_X7_teller (V := U) (g := U.1 1) (m := m) (by omega) (fun h9 y9 m9 s9 => ?_) 10 0 _ _ (by omega) (by omega) rfl (MAt.id (j := 1) hM fun q hq => by rw [if_neg (by omega)]) Same.rf
          refine aw_aload_n (pc' := 85) eX7_teller_84 rfl rfl trivial ?_
          refine aw_Mref (pc' := 88) (kf := 0) 1 m9 eX7_teller_85 rfl (by decide) rfl q789 ?_
          refine aw_bipush (pc' := 90) (v := 10) eX7_teller_88 rfl (by decide) ?_
          refine aw_iload (pc' := 92) eX7_teller_90 rfl rfl ?_
          refine aw_imul (pc' := 93) eX7_teller_92 rfl ?_
          refine aw_iload_n (pc' := 94) eX7_teller_93 rfl rfl ?_
          refine aw_MastC (pc' := 95) 1 (10 * m) m9 eX7_teller_94 rfl (by decide) (show vp_in _ 123 from (ix10a (i := m) (by omega)).2) (ix10a (i := m) (by omega)).1 (fun h3 hM1 hs2 => ?_)
          have hT4 := s9.tr hs2
          refine aw_aload_n (pc' := 96) eX7_teller_95 rfl rfl trivial ?_
          refine aw_Mref (pc' := 99) (kf := 0) 1 hM1 eX7_teller_96 rfl (by decide) rfl q789 ?_
          refine aw_bipush (pc' := 101) (v := 10) eX7_teller_99 rfl (by decide) ?_
          refine aw_iload (pc' := 103) eX7_teller_101 rfl rfl ?_
          refine aw_imul (pc' := 104) eX7_teller_103 rfl ?_
          refine aw_iconst (pc' := 105) (v := 1) eX7_teller_104 rfl (by decide) ?_
          refine aw_iadd (pc' := 106) eX7_teller_105 rfl ?_
          refine aw_iload_n (pc' := 107) eX7_teller_106 rfl rfl ?_
          refine aw_MastC (pc' := 108) 1 (10 * m + 1) hM1 eX7_teller_107 rfl (by decide) (show vp_in _ 123 from (ix10 (i := m) (c := 1) (by omega)).2) (ix10 (i := m) (c := 1) (by omega)).1 (fun h7 hM5 hs6 => ?_)
          have hT8 := hT4.tr hs6
          refine aw_aload_n (pc' := 109) eX7_teller_108 rfl rfl trivial ?_
          refine aw_Mref (pc' := 112) (kf := 0) 1 hM5 eX7_teller_109 rfl (by decide) rfl q789 ?_
          refine aw_bipush (pc' := 114) (v := 10) eX7_teller_112 rfl (by decide) ?_
          refine aw_iload (pc' := 116) eX7_teller_114 rfl rfl ?_
          refine aw_imul (pc' := 117) eX7_teller_116 rfl ?_
          refine aw_iconst (pc' := 118) (v := 2) eX7_teller_117 rfl (by decide) ?_
          refine aw_iadd (pc' := 119) eX7_teller_118 rfl ?_
          refine aw_iload_n (pc' := 120) eX7_teller_119 rfl rfl ?_
          refine aw_MastC (pc' := 121) 1 (10 * m + 2) hM5 eX7_teller_120 rfl (by decide) (show vp_in _ 123 from (ix10 (i := m) (c := 2) (by omega)).2) (ix10 (i := m) (c := 2) (by omega)).1 (fun h11 hM9 hs10 => ?_)
          have hT12 := hT8.tr hs10
          refine aw_aload_n (pc' := 122) eX7_teller_121 rfl rfl trivial ?_
          refine aw_Mref (pc' := 125) (kf := 0) 1 hM9 eX7_teller_122 rfl (by decide) rfl q789 ?_
          refine aw_bipush (pc' := 127) (v := 60) eX7_teller_125 rfl (by decide) ?_
          refine aw_dup2 (pc' := 128) eX7_teller_127 rfl rfl rfl ?_
          refine aw_MaldC (pc' := 129) 1 60 hM9 eX7_teller_128 rfl (by decide) (by unfold vp_in; decide) (by decide) ?_
          refine aw_iconst (pc' := 130) (v := 1) eX7_teller_129 rfl (by decide) ?_
          refine aw_iadd (pc' := 131) eX7_teller_130 rfl ?_
          refine aw_MastC (pc' := 132) 1 60 hM9 eX7_teller_131 rfl (by decide) (by unfold vp_in; decide) (by decide) (fun h15 hM13 hs14 => ?_)
          have hT16 := hT12.tr hs14
          refine aw_iload (pc' := 134) eX7_teller_132 rfl rfl ?_
          refine aw_ret (v := some (.int _)) eX7_teller_134 ⟨rfl, rfl⟩ (by omega) (by omega) rfl ?_
          have hM9 := hM13
          simp only [mup_mg, mg_mg, mg_1] at hM9
          refine ⟨by rw [sTeller, if_pos c_7, if_pos ⟨c_19, c_29⟩, if_neg e6], ?_, hT16⟩
          rw [sTeller, if_pos c_7, if_pos ⟨c_19, c_29⟩, if_neg e6]
          refine hM9.gx fun q hq => ?_
          simp only [upd_if, sNew]
          by_cases z0 : q = 60
          · rw [if_pos z0, if_pos z0, if_neg (by omega), if_neg (by omega), if_neg (by omega), if_neg (by omega)]
            exact (congrArg (· + 1) hm.1).trans (nI_1 m)
          · rw [if_neg z0, if_neg z0]
            by_cases z2 : q = 10 * m + 2
            · rw [if_pos z2, if_neg (by omega), if_neg (by omega), if_pos z2]
            · rw [if_neg z2]
              by_cases z1 : q = 10 * m + 1
              · rw [if_pos z1, if_neg (by omega), if_pos z1]
              · rw [if_neg z1]
                by_cases z3 : q = 10 * m
                · rw [if_pos z3, if_pos z3]
                · rw [if_neg z3, if_neg z3, if_neg z1, if_neg z2]
        · refine aw_bipush (pc' := 53) (v := -4) eX7_teller_51 rfl (by decide) ?_
          refine aw_ret (v := some (.int _)) eX7_teller_53 ⟨rfl, rfl⟩ (by omega) (by omega) rfl ?_
          have hm6 := hm.2
          rw [hm.1] at c_48
          have e6 : m = 6 := (nI_eq (b := 6) (by omega) (by omega)).mp (by first | exact c_48 | exact Decidable.not_not.mp c_48)
          exact ⟨by rw [sTeller, if_pos c_7, if_pos ⟨c_19, c_29⟩, if_pos e6], by rw [sTeller, if_pos c_7, if_pos ⟨c_19, c_29⟩, if_pos e6, mg_id]; exact hM, Same.rf⟩
      · refine aw_bipush (pc' := 34) (v := -2) eX7_teller_32 rfl (by decide) ?_
        refine aw_ret (v := some (.int _)) eX7_teller_34 ⟨rfl, rfl⟩ (by omega) (by omega) rfl ?_
        try simp only [zb_eq0, Bool.not_eq_false, Bool.not_eq_true, decide_eq_true_eq, decide_eq_false_iff_not, Decidable.not_not] at c_7 c_19 c_29
        exact ⟨by rw [sTeller, if_pos c_7, if_neg (by rw [c_29]; simp)], by rw [sTeller, if_pos c_7, if_neg (by rw [c_29]; simp), mg_id]; exact hM, Same.rf⟩
  · refine aw_iconst (pc' := 11) (v := -1) eX7_teller_10 rfl (by decide) ?_
    refine aw_ret (v := some (.int _)) eX7_teller_11 ⟨rfl, rfl⟩ (by omega) (by omega) rfl ?_
    try simp only [zb_eq0, Bool.not_eq_false, Bool.not_eq_true, decide_eq_true_eq, decide_eq_false_iff_not, Decidable.not_not] at c_7
    exact ⟨by rw [sTeller, if_neg (by rw [c_7]; decide)], by rw [sTeller, if_neg (by rw [c_7]; decide), mg_id]; exact hM, Same.rf⟩
def mAb (q : Nat) : Int32 := [-1, 0, 0, 0, 1, 2, 3].getD q 0
def sTk (kd : Int32) (k : Int32) : Bool := decide (k = 0) || decide (k = kd) || (decide (kd = 4) && decide (k = 1)) || (decide (kd = 5) && decide (k = 2)) || (decide (kd = 6) && decide (k = 3))
def sTaken (g : Nat → Int32) (m : Nat) (tl k : Int32) : Int32 := if bIn k 0 6 = true then if bIn tl 0 (nI m - 1) = true then if sTk (g (10 * tl.toNatClampNeg)) k = true then g (10 * tl.toNatClampNeg) else -12 else -11 else -2
def mAp (q : Nat) : Nat := [0, 0, 0, 0, 1, 2, 3].getD q 0
def tkB (a k : Nat) : Bool := if a = k then sTk (nI a) (nI k) else if a = 0 then !sTk (nI a) (nI k) && decide (mAb a = -1) else decide (mAp a < a) && decide (mAb a = nI (mAp a)) && (sTk (nI a) (nI k) == sTk (nI (mAp a)) (nI k))
theorem tk_b : ((List.range 7).all fun a => (List.range 7).all fun k => tkB a k) = true := by decide +kernel
theorem tk_all (a : Nat) (ha : a < 7) (k : Nat) (hk : k < 7) : (a = k → sTk (nI a) (nI k) = true) ∧ (a ≠ k → a ≠ 0 → mAp a < a ∧ mAb a = nI (mAp a) ∧ sTk (nI a) (nI k) = sTk (nI (mAp a)) (nI k)) ∧ (a ≠ k → a = 0 → sTk (nI a) (nI k) = false ∧ mAb a = -1) := by
  have z := List.all_eq_true.mp (List.all_eq_true.mp tk_b a (List.mem_range.mpr ha)) k (List.mem_range.mpr hk)
  unfold tkB at z
  refine ⟨fun e => by rw [if_pos e] at z; exact z, fun e e0 => ?_, fun e e0 => ?_⟩
  · rw [if_neg e, if_neg e0] at z
    simp only [Bool.and_eq_true, decide_eq_true_eq, beq_iff_eq] at z
    exact ⟨z.1.1, z.1.2, z.2⟩
  · rw [if_neg e, if_pos e0] at z
    simp only [Bool.and_eq_true, decide_eq_true_eq, Bool.not_eq_true'] at z
    exact z
abbrev mX7_taken : MT := (RX7, cX7_taken, 4, (some .int), false)
theorem eX7_taken_0 : decode mX7_taken.2.1 0 = .ok (.iload_n 2, 1) := by decide +kernel
theorem eX7_taken_1 : decode mX7_taken.2.1 1 = .ok (.iconst 0, 1) := by decide +kernel
theorem eX7_taken_2 : decode mX7_taken.2.1 2 = .ok (.bipush 6, 2) := by decide +kernel
theorem eX7_taken_4 : decode mX7_taken.2.1 4 = .ok (.invokestatic 80, 3) := by decide +kernel
theorem eX7_taken_7 : decode mX7_taken.2.1 7 = .ok (.ifCond .ne 6, 3) := by decide +kernel
theorem eX7_taken_10 : decode mX7_taken.2.1 10 = .ok (.bipush (-2), 2) := by decide +kernel
theorem eX7_taken_12 : decode mX7_taken.2.1 12 = .ok (.ireturn, 1) := by decide +kernel
theorem eX7_taken_13 : decode mX7_taken.2.1 13 = .ok (.aload_n 0, 1) := by decide +kernel
theorem eX7_taken_14 : decode mX7_taken.2.1 14 = .ok (.iload_n 1, 1) := by decide +kernel
theorem eX7_taken_15 : decode mX7_taken.2.1 15 = .ok (.invokevirtual 88, 3) := by decide +kernel
theorem eX7_taken_18 : decode mX7_taken.2.1 18 = .ok (.ifCond .ne 6, 3) := by decide +kernel
theorem eX7_taken_21 : decode mX7_taken.2.1 21 = .ok (.bipush (-11), 2) := by decide +kernel
theorem eX7_taken_23 : decode mX7_taken.2.1 23 = .ok (.ireturn, 1) := by decide +kernel
theorem eX7_taken_24 : decode mX7_taken.2.1 24 = .ok (.aload_n 0, 1) := by decide +kernel
theorem eX7_taken_25 : decode mX7_taken.2.1 25 = .ok (.iload_n 1, 1) := by decide +kernel
theorem eX7_taken_26 : decode mX7_taken.2.1 26 = .ok (.iconst 0, 1) := by decide +kernel
theorem eX7_taken_27 : decode mX7_taken.2.1 27 = .ok (.invokevirtual 84, 3) := by decide +kernel
theorem eX7_taken_30 : decode mX7_taken.2.1 30 = .ok (.istore_n 3, 1) := by decide +kernel
theorem eX7_taken_31 : decode mX7_taken.2.1 31 = .ok (.iload_n 3, 1) := by decide +kernel
theorem eX7_taken_32 : decode mX7_taken.2.1 32 = .ok (.iconst (-1), 1) := by decide +kernel
theorem eX7_taken_33 : decode mX7_taken.2.1 33 = .ok (.if_icmp .eq 18, 3) := by decide +kernel
theorem eX7_taken_36 : decode mX7_taken.2.1 36 = .ok (.iload_n 3, 1) := by decide +kernel
theorem eX7_taken_37 : decode mX7_taken.2.1 37 = .ok (.iload_n 2, 1) := by decide +kernel
theorem eX7_taken_38 : decode mX7_taken.2.1 38 = .ok (.if_icmp .eq 13, 3) := by decide +kernel
theorem eX7_taken_41 : decode mX7_taken.2.1 41 = .ok (.aload_n 0, 1) := by decide +kernel
theorem eX7_taken_42 : decode mX7_taken.2.1 42 = .ok (.getfield 50, 3) := by decide +kernel
theorem eX7_taken_45 : decode mX7_taken.2.1 45 = .ok (.iload_n 3, 1) := by decide +kernel
theorem eX7_taken_46 : decode mX7_taken.2.1 46 = .ok (.iaload, 1) := by decide +kernel
theorem eX7_taken_47 : decode mX7_taken.2.1 47 = .ok (.istore_n 3, 1) := by decide +kernel
theorem eX7_taken_48 : decode mX7_taken.2.1 48 = .ok (.goto (-17), 3) := by decide +kernel
theorem eX7_taken_51 : decode mX7_taken.2.1 51 = .ok (.iload_n 3, 1) := by decide +kernel
theorem eX7_taken_52 : decode mX7_taken.2.1 52 = .ok (.iload_n 2, 1) := by decide +kernel
theorem eX7_taken_53 : decode mX7_taken.2.1 53 = .ok (.if_icmp .ne 12, 3) := by decide +kernel
theorem eX7_taken_56 : decode mX7_taken.2.1 56 = .ok (.aload_n 0, 1) := by decide +kernel
theorem eX7_taken_57 : decode mX7_taken.2.1 57 = .ok (.iload_n 1, 1) := by decide +kernel
theorem eX7_taken_58 : decode mX7_taken.2.1 58 = .ok (.iconst 0, 1) := by decide +kernel
theorem eX7_taken_59 : decode mX7_taken.2.1 59 = .ok (.invokevirtual 84, 3) := by decide +kernel
theorem eX7_taken_62 : decode mX7_taken.2.1 62 = .ok (.goto 5, 3) := by decide +kernel
theorem eX7_taken_65 : decode mX7_taken.2.1 65 = .ok (.bipush (-12), 2) := by decide +kernel
theorem eX7_taken_67 : decode mX7_taken.2.1 67 = .ok (.ireturn, 1) := by decide +kernel
theorem m1nk {a : Nat} (ha : a < 2 ^ 31) : ¬ (-1 : Int32) = nI a := fun z => by
  have y := congrArg Int32.toInt z
  rw [nI_toInt ha, show (-1 : Int32).toInt = -1 from by decide] at y
  omega
/-- the model's table of kinds -/
def mA (U : MS) : Prop := ∀ q, q < 7 → U.1 12 q = mAb q
theorem lp_X7_taken (hM : MAt h u U) (hA : mA U) {k : Nat} (hk : k < 7) {B : Bool} {x1 : Option Value} (hQ : ∀ y, (y = nI k ↔ B = true) → AW l G mX7_taken d 0 0 Q 0 0 h [some (.ref u), x1, some (.int (nI k)), some (.int y)] [] 51) : ∀ (a : Nat), a < 7 → sTk (nI a) (nI k) = B → AW l G mX7_taken d 0 0 Q 0 0 h [some (.ref u), x1, some (.int (nI k)), some (.int (nI a))] [] 31 := by
  intro a
  induction a using Nat.strongRecOn with
  | _ a ih =>
    intro ha hB
    refine aw_iload_n (pc' := 32) eX7_taken_31 rfl rfl ?_
    refine aw_iconst (pc' := 33) (v := -1) eX7_taken_32 rfl (by decide) ?_
    refine aw_icmp_eq (pc' := 36) (tgt := 51) eX7_taken_33 rfl (by decide) (fun c_33 => ?_) (fun c_33 => ?_)
    · exact absurd c_33.symm (m1nk (by omega))
    · refine aw_iload_n (pc' := 37) eX7_taken_36 rfl rfl ?_
      refine aw_iload_n (pc' := 38) eX7_taken_37 rfl rfl ?_
      refine aw_icmp_eq (pc' := 41) (tgt := 51) eX7_taken_38 rfl (by decide) (fun c_38 => ?_) (fun c_38 => ?_)
      · have eak : a = k := (nI_eq (by omega) (by omega)).mp (by first | exact c_38 | exact Decidable.not_not.mp c_38)
        exact hQ _ (by rw [eak, ← hB]; exact ⟨fun _ => (tk_all a (by omega) k (by omega)).1 eak, fun _ => rfl⟩)
      · refine aw_aload_n (pc' := 42) eX7_taken_41 rfl rfl trivial ?_
        refine aw_Mref (pc' := 45) (kf := 20) 12 hM eX7_taken_42 rfl (by decide) rfl q809 ?_
        refine aw_iload_n (pc' := 46) eX7_taken_45 rfl rfl ?_
        refine aw_MaldC (pc' := 47) 12 a hM eX7_taken_46 rfl (by decide) (show vp_in _ 7 from vp_in_nI (by omega) (by omega)) (nI_clamp (by omega)) ?_
        refine aw_istore_n (pc' := 48) eX7_taken_47 rfl (by decide) ?_
        dsimp only [zst, zst2, zcut]
        refine aw_goto eX7_taken_48 (by decide) (tgt := 31) ?_
        have ne : a ≠ k := fun z => c_38 (by rw [z])
        by_cases a0 : a = 0
        · obtain ⟨e1, e2⟩ := (tk_all a (by omega) k (by omega)).2.2 ne a0
          rw [hA a (by omega), e2]
          refine aw_iload_n (pc' := 32) eX7_taken_31 rfl rfl ?_
          refine aw_iconst (pc' := 33) (v := -1) eX7_taken_32 rfl (by decide) ?_
          refine aw_icmp_eq (pc' := 36) (tgt := 51) eX7_taken_33 rfl (by decide) (fun c_33 => ?_) (fun c_33 => ?_)
          · exact hQ _ (by rw [← hB, e1]; exact ⟨fun z => absurd z (m1nk (by omega)), fun z => by cases z⟩)
          · exact absurd rfl c_33
        · obtain ⟨e0, e1, e2⟩ := (tk_all a (by omega) k (by omega)).2.1 ne a0
          rw [hA a (by omega), e1]
          exact ih (mAp a) (by omega) (by omega) (by rw [← e2]; exact hB)
theorem c_X7_taken (hM : MAt h u U) {m : Nat} (hm : mOk U m) (hA : mA U) (hK : ∀ i, i < m → ∃ a, a < 7 ∧ U.1 1 (10 * i) = nI a) (tl k : Int32) (hd : 2 ≤ d) : Ct l G mX7_taken yX7_taken d 0 0 [.ref u, .int tl, .int k] h (fun r h' => r = some (.int (sTaken (U.1 1) m tl k)) ∧ h' = h) := by
  refine ct_of (lv := [some (.ref u), some (.int tl), some (.int k), none]) (by decide +kernel) rfl (fun z => by cases z) (fun _ => rfl) (fun _ => Nat.le_of_ble_eq_true rfl) ?_
  refine aw_iload_n (pc' := 1) eX7_taken_0 rfl rfl ?_
  refine aw_iconst (pc' := 2) (v := 0) eX7_taken_1 rfl (by decide) ?_
  refine aw_bipush (pc' := 4) (v := 6) eX7_taken_2 rfl (by decide) ?_
  refine aw_calls (pc' := 7) (nn := 3) (c_X7_isIn (d := d - 1) _ _ _ (by omega)) eX7_taken_4 rfl ⟨q890, q892, q62⟩ q891 ⟨by decide +kernel, by decide +kernel, by decide +kernel⟩ rfl ⟨by omega, by decide⟩ ⟨by omega, by omega⟩ rfl (Nat.le_of_ble_eq_true rfl) (fun v1 h2 hq3 => ?_)
  obtain ⟨rfl, rfl⟩ := hq3
  dsimp only [Option.toList, List.cons_append, List.nil_append]
  refine aw_if_ne (pc' := 10) (tgt := 13) eX7_taken_7 rfl (by decide) (fun c_7 => ?_) (fun c_7 => ?_)
  · simp only [zb_eq0, Bool.not_eq_false, Bool.not_eq_true, decide_eq_true_eq, decide_eq_false_iff_not, Decidable.not_not] at c_7
    have c7 := c_7
    obtain ⟨k, hk, rfl⟩ := (bIn_lit (N := 6) (by omega)).mp c7
    refine aw_aload_n (pc' := 14) eX7_taken_13 rfl rfl trivial ?_
    refine aw_iload_n (pc' := 15) eX7_taken_14 rfl rfl ?_
    refine aw_callv (pc' := 18) (nn := 1) (c_X7_isOne (d := d - 1) hM _ (by omega)) eX7_taken_15 rfl ⟨q897, q900, q62⟩ q899 q21 ⟨rfl, by decide +kernel, by decide +kernel, by decide +kernel⟩ rfl (by rw [hM.2.1]; exact ⟨rfl, rfl⟩) rfl ⟨by omega, by decide⟩ ⟨by omega, by omega⟩ rfl (Nat.le_of_ble_eq_true rfl) (fun v4 h5 hq6 => ?_)
    obtain ⟨rfl, rfl⟩ := hq6
    dsimp only [Option.toList, List.cons_append, List.nil_append]
    refine aw_if_ne (pc' := 21) (tgt := 24) eX7_taken_18 rfl (by decide) (fun c_18 => ?_) (fun c_18 => ?_)
    · simp only [zb_eq0, Bool.not_eq_false, Bool.not_eq_true, decide_eq_true_eq, decide_eq_false_iff_not, Decidable.not_not, hm.1] at c_18
      have c18 := c_18
      have hm6 := hm.2
      obtain ⟨i, hi, rfl⟩ := (bIn_one hm.2).mp c18
      have cli : (nI i).toNatClampNeg = i := nI_clamp (by omega)
      obtain ⟨a, ha, ea⟩ := hK i hi
      refine aw_aload_n (pc' := 25) eX7_taken_24 rfl rfl trivial ?_
      refine aw_iload_n (pc' := 26) eX7_taken_25 rfl rfl ?_
      refine aw_iconst (pc' := 27) (v := 0) eX7_taken_26 rfl (by decide) ?_
      refine aw_callv (pc' := 30) (nn := 2) (c_one (d := d - 1) hM i 0 (by omega) (by omega)) eX7_taken_27 rfl ⟨q901, q904, q62⟩ q903 q22 ⟨rfl, by decide +kernel, by decide +kernel, by decide +kernel⟩ rfl (by rw [hM.2.1]; exact ⟨rfl, rfl⟩) rfl ⟨by omega, by decide⟩ ⟨by omega, by omega⟩ rfl (Nat.le_of_ble_eq_true rfl) (fun v7 h8 hq9 => ?_)
      obtain ⟨rfl, rfl⟩ := hq9
      dsimp only [Option.toList, List.cons_append, List.nil_append]
      refine aw_istore_n (pc' := 31) eX7_taken_30 rfl (by decide) ?_
      dsimp only [zst, zst2, zcut]
      rw [show U.1 1 (10 * i + 0) = nI a from ea]
      refine lp_X7_taken hM hA (k := k) (by omega) (B := sTk (U.1 1 (10 * i)) (nI k)) (fun y hy => ?_) a ha (by rw [ea])
      refine aw_iload_n (pc' := 52) eX7_taken_51 rfl rfl ?_
      refine aw_iload_n (pc' := 53) eX7_taken_52 rfl rfl ?_
      refine aw_icmp_ne (pc' := 56) (tgt := 65) eX7_taken_53 rfl (by decide) (fun c_53 => ?_) (fun c_53 => ?_)
      · refine aw_bipush (pc' := 67) (v := -12) eX7_taken_65 rfl (by decide) ?_
        refine aw_ret (v := some (.int _)) eX7_taken_67 ⟨rfl, rfl⟩ (by omega) (by omega) rfl ?_
        exact ⟨by rw [sTaken, if_pos c7, if_pos c18, cli, if_neg (show ¬ sTk (U.1 1 (10 * i)) (nI k) = true from fun z => c_53 (hy.mpr z))], rfl⟩
      · refine aw_aload_n (pc' := 57) eX7_taken_56 rfl rfl trivial ?_
        refine aw_iload_n (pc' := 58) eX7_taken_57 rfl rfl ?_
        refine aw_iconst (pc' := 59) (v := 0) eX7_taken_58 rfl (by decide) ?_
        refine aw_callv (pc' := 62) (nn := 2) (c_one (d := d - 1) hM i 0 (by omega) (by omega)) eX7_taken_59 rfl ⟨q901, q904, q62⟩ q903 q22 ⟨rfl, by decide +kernel, by decide +kernel, by decide +kernel⟩ rfl (by rw [hM.2.1]; exact ⟨rfl, rfl⟩) rfl ⟨by omega, by decide⟩ ⟨by omega, by omega⟩ rfl (Nat.le_of_ble_eq_true rfl) (fun v1 h2 hq3 => ?_)
        obtain ⟨rfl, rfl⟩ := hq3
        dsimp only [Option.toList, List.cons_append, List.nil_append]
        refine aw_goto eX7_taken_62 (by decide) (tgt := 67) ?_
        refine aw_ret (v := some (.int _)) eX7_taken_67 ⟨rfl, rfl⟩ (by omega) (by omega) rfl ?_
        exact ⟨by rw [sTaken, if_pos c7, if_pos c18, cli, if_pos (show sTk (U.1 1 (10 * i)) (nI k) = true from hy.mp (by first | exact c_53 | exact Decidable.not_not.mp c_53))]; rfl, rfl⟩
    · refine aw_bipush (pc' := 23) (v := -11) eX7_taken_21 rfl (by decide) ?_
      refine aw_ret (v := some (.int _)) eX7_taken_23 ⟨rfl, rfl⟩ (by omega) (by omega) rfl ?_
      try simp only [zb_eq0, Bool.not_eq_false, Bool.not_eq_true, decide_eq_true_eq, decide_eq_false_iff_not, Decidable.not_not, hm.1] at c_18
      exact ⟨by rw [sTaken, if_pos c7, if_neg (by rw [c_18]; decide)], rfl⟩
  · refine aw_bipush (pc' := 12) (v := -2) eX7_taken_10 rfl (by decide) ?_
    refine aw_ret (v := some (.int _)) eX7_taken_12 ⟨rfl, rfl⟩ (by omega) (by omega) rfl ?_
    try simp only [zb_eq0, Bool.not_eq_false, Bool.not_eq_true, decide_eq_true_eq, decide_eq_false_iff_not, Decidable.not_not] at c_7
    exact ⟨by rw [sTaken, if_neg (by rw [c_7]; decide)], rfl⟩
end M23
