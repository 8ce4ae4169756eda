/-! the class: tapes; the voice -/
section C7
variable {l : Launch} {G : GT} {d n m t : Nat} {h : Hp} {Q : Option Value → Hp → Prop}
def TAt (h : Hp) (a : Nat) (s n : Int32) (f : Nat → Int64) : Prop := OA h a (.inr (3, [.ref (a + 1), .int s, .int n])) ∧ OA h (a + 1) (.inl (3, (60, .inr (.inl f))))
theorem TAt.fr {h' : Hp} {a w2 N : Nat} {s n : Int32} {f : Nat → Int64} (hR : TAt h a s n f) (hs : Same w2 N h h') (hd : a + 2 ≤ w2 ∨ w2 + N ≤ a) : TAt h' a s n f := ⟨hR.1.fr hs (by omega), hR.2.fr hs (by omega)⟩
theorem TAt.ob {a : Nat} {s n : Int32} {f : Nat → Int64} (hR : TAt h a s n f) : zOb (h.2 a) 3 3 := by
  rw [hR.1.1]
  exact ⟨rfl, rfl⟩
/-- the voice: what ran, how many; whose, of which kind, with which v -/
def VAt (h : Hp) (a : Nat) (i K : Int32) (v : Int32) (s : TS) : Prop := OA h a (.inr (4, [.ref (a + 1), .int (nI s.2), .int i, .int K, .int v])) ∧ OA h (a + 1) (.inl (0, (20, .inl s.1)))
theorem VAt.fr {h' : Hp} {a w2 N : Nat} {i K v : Int32} {s : TS} (hR : VAt h a i K v s) (hs : Same w2 N h h') (hd : a + 2 ≤ w2 ∨ w2 + N ≤ a) : VAt h' a i K v s := ⟨hR.1.fr hs (by omega), hR.2.fr hs (by omega)⟩
theorem VAt.ob {a : Nat} {i K v : Int32} {s : TS} (hR : VAt h a i K v s) : zOb (h.2 a) 4 5 := by
  rw [hR.1.1]
  exact ⟨rfl, rfl⟩
theorem VAt.pu {a : Nat} {i K v b : Int32} {s : TS} (hO : OA h a (.inr (4, [.ref (a + 1), .int (nI s.2 + 1), .int i, .int K, .int v]))) (hA : OA h (a + 1) (.inl (0, (20, .inl (if s.2 < 20 then upd s.1 s.2 b else s.1))))) : VAt h a i K v (tPush b s) := by
  rw [show nI s.2 + 1 = nI (s.2 + 1) from nI_1 s.2] at hO
  exact ⟨hO, hA⟩
theorem tb_all : ∀ q ∈ List.range 21, tabB q = 10 ∨ tabB q = 11 ∨ tabB q = 12 ∨ tabB q = 20 ∨ tabB q = 30 ∨ tabB q = 40 ∨ tabB q = 50 ∨ tabB q = 51 ∨ tabB q = 60 ∨ tabB q = 70 ∨ tabB q = 71 := by decide +kernel
theorem low_1 (hL : ∀ i, i < 16 → h.2 i = zlow G i) : h.2 1 = .inl (0, (7, .inl tabA)) := by
  rw [hL 1 (by omega)]; rfl
theorem low_2 (hL : ∀ i, i < 16 → h.2 i = zlow G i) : h.2 2 = .inl (0, (21, .inl tabB)) := by
  rw [hL 2 (by omega)]; rfl
theorem ixk3 {k a : Nat} (hk : k < 7) (ha : a < 3) : nI k * 3 + nI a = nI (3 * k + a) := ix3r (by omega)

abbrev mX3_becomesRow : MT := (RX3, cX3_becomesRow, 3, none, false)
theorem eX3_becomesRow_0 : decode mX3_becomesRow.2.1 0 = .ok (.aload_n 0, 1) := by decide +kernel
theorem eX3_becomesRow_1 : decode mX3_becomesRow.2.1 1 = .ok (.getfield 9, 3) := by decide +kernel
theorem eX3_becomesRow_4 : decode mX3_becomesRow.2.1 4 = .ok (.lconst 0, 1) := by decide +kernel
theorem eX3_becomesRow_5 : decode mX3_becomesRow.2.1 5 = .ok (.invokestatic 22, 3) := by decide +kernel
theorem eX3_becomesRow_8 : decode mX3_becomesRow.2.1 8 = .ok (.aload_n 0, 1) := by decide +kernel
theorem eX3_becomesRow_9 : decode mX3_becomesRow.2.1 9 = .ok (.iload_n 1, 1) := by decide +kernel
theorem eX3_becomesRow_10 : decode mX3_becomesRow.2.1 10 = .ok (.putfield 15, 3) := by decide +kernel
theorem eX3_becomesRow_13 : decode mX3_becomesRow.2.1 13 = .ok (.aload_n 0, 1) := by decide +kernel
theorem eX3_becomesRow_14 : decode mX3_becomesRow.2.1 14 = .ok (.iconst 0, 1) := by decide +kernel
theorem eX3_becomesRow_15 : decode mX3_becomesRow.2.1 15 = .ok (.iload_n 2, 1) := by decide +kernel
theorem eX3_becomesRow_16 : decode mX3_becomesRow.2.1 16 = .ok (.bipush 60, 2) := by decide +kernel
theorem eX3_becomesRow_18 : decode mX3_becomesRow.2.1 18 = .ok (.invokestatic 28, 3) := by decide +kernel
theorem eX3_becomesRow_21 : decode mX3_becomesRow.2.1 21 = .ok (.invokestatic 34, 3) := by decide +kernel
theorem eX3_becomesRow_24 : decode mX3_becomesRow.2.1 24 = .ok (.putfield 19, 3) := by decide +kernel
theorem eX3_becomesRow_27 : decode mX3_becomesRow.2.1 27 = .ok (.return_, 1) := by decide +kernel
theorem c_X3_becomesRow {a : Nat} {s n : Int32} {f : Nat → Int64} (hR : TAt h a s n f) (s2 n2 : Int32) (hd : 1 ≤ d) : Ct l G mX3_becomesRow yX3_becomesRow d 0 0 [.ref a, .int s2, .int n2] h (fun r h' => r = none ∧ ∃ f', (∀ i, i < 60 → f' i = 0) ∧ TAt h' a s2 (if (0 : Int32) < (if (60 : Int32) < n2 then 60 else n2) then (if (60 : Int32) < n2 then 60 else n2) else 0) f' ∧ Same a 2 h h') := by
  refine ct_of (lv := [some (.ref a), some (.int s2), some (.int n2)]) (by decide +kernel) rfl (fun z => by cases z) (fun _ => rfl) (fun _ => Nat.le_of_ble_eq_true rfl) ?_
  refine aw_aload_n (pc' := 1) eX3_becomesRow_0 rfl rfl trivial ?_
  refine aw_Oget (pc' := 4) (ci := 3) (kf := 0) (N := 3) (.ref (a + 1)) hR.1 eX3_becomesRow_1 rfl rfl rfl inX3 (by decide) q236 rfl ?_
  refine aw_lconst (pc' := 5) (v := 0) eX3_becomesRow_4 rfl (by decide) ?_
  refine aw_calls (pc' := 8) (nn := 2) (c_J7_fill_d0a16 (d := d - 1) (N := 60) (by omega) 0 hR.2 (by omega)) eX3_becomesRow_5 rfl ⟨q758, q760, q65⟩ q759 ⟨by decide +kernel, by decide +kernel, by decide +kernel⟩ rfl ⟨by omega, by decide⟩ ⟨by omega, by omega⟩ rfl (Nat.le_of_ble_eq_true rfl) (fun v3 h4 hq5 => ?_)
  obtain ⟨rfl, f2, hf2, hA1, hs2⟩ := hq5
  have hz6 := hs2.w (w2 := a) (n2 := 2) (by omega) (by omega)
  have hF7 := hR.1.fr hs2 (by omega)
  dsimp only [Option.toList, List.cons_append, List.nil_append]
  refine aw_aload_n (pc' := 9) eX3_becomesRow_8 rfl rfl trivial ?_
  refine aw_iload_n (pc' := 10) eX3_becomesRow_9 rfl rfl ?_
  refine aw_Oput (pc' := 13) (ci := 3) (kf := 1) (N := 3) (ty0 := tyX3) [.ref (a + 1), .int s2, .int n] hF7 eX3_becomesRow_10 rfl rfl rfl inX3 tyX3_ok nmX3 (by decide) q238 rfl (by first | trivial | exact Or.inl rfl | exact Or.inr rfl | (simp [zfit]; done)) rfl (fun h10 hO8 hs9 => ?_)
  have hz11 := hs9.w (w2 := a) (n2 := 2) (by omega) (by omega)
  have hT12 := hz6.tr hz11
  have hF13 := hA1.fr hs9 (by omega)
  refine aw_aload_n (pc' := 14) eX3_becomesRow_13 rfl rfl trivial ?_
  refine aw_iconst (pc' := 15) (v := 0) eX3_becomesRow_14 rfl (by decide) ?_
  refine aw_iload_n (pc' := 16) eX3_becomesRow_15 rfl rfl ?_
  refine aw_bipush (pc' := 18) (v := 60) eX3_becomesRow_16 rfl (by decide) ?_
  refine aw_mmin (pc' := 21) eX3_becomesRow_18 rfl q761 q326 q63 q327 (by omega) ⟨by omega, by omega⟩ (Nat.le_of_ble_eq_true rfl) ?_
  refine aw_mmax (pc' := 24) eX3_becomesRow_21 rfl q762 q509 q63 q510 (by omega) ⟨by omega, by omega⟩ (Nat.le_of_ble_eq_true rfl) ?_
  refine aw_Oput (pc' := 27) (ci := 3) (kf := 2) (N := 3) (ty0 := tyX3) [.ref (a + 1), .int s2, .int (if (0 : Int32) < (if (60 : Int32) < n2 then 60 else n2) then (if (60 : Int32) < n2 then 60 else n2) else 0)] hO8 eX3_becomesRow_24 rfl rfl rfl inX3 tyX3_ok nmX3 (by decide) q240 rfl (by first | trivial | exact Or.inl rfl | exact Or.inr rfl | (simp [zfit]; done)) rfl (fun h16 hO14 hs15 => ?_)
  have hz17 := hs15.w (w2 := a) (n2 := 2) (by omega) (by omega)
  have hT18 := hT12.tr hz17
  have hF19 := hF13.fr hs15 (by omega)
  refine aw_ret (v := none) eX3_becomesRow_27 rfl (by omega) (by omega) rfl ?_
  exact ⟨rfl, f2, hf2, ⟨hO14, hF19⟩, hT18⟩
abbrev mX3_fitted : MT := (RX3, cX3_fitted, 3, (some .long), false)
theorem eX3_fitted_0 : decode mX3_fitted.2.1 0 = .ok (.aload_n 0, 1) := by decide +kernel
theorem eX3_fitted_1 : decode mX3_fitted.2.1 1 = .ok (.getfield 15, 3) := by decide +kernel
theorem eX3_fitted_4 : decode mX3_fitted.2.1 4 = .ok (.tableswitch 62 0 4 #[36, 41, 46, 62, 50], 36) := by decide +kernel
theorem eX3_fitted_40 : decode mX3_fitted.2.1 40 = .ok (.lload_n 1, 1) := by decide +kernel
theorem eX3_fitted_41 : decode mX3_fitted.2.1 41 = .ok (.l2i, 1) := by decide +kernel
theorem eX3_fitted_42 : decode mX3_fitted.2.1 42 = .ok (.i2b, 1) := by decide +kernel
theorem eX3_fitted_43 : decode mX3_fitted.2.1 43 = .ok (.i2l, 1) := by decide +kernel
theorem eX3_fitted_44 : decode mX3_fitted.2.1 44 = .ok (.lreturn, 1) := by decide +kernel
theorem eX3_fitted_45 : decode mX3_fitted.2.1 45 = .ok (.lload_n 1, 1) := by decide +kernel
theorem eX3_fitted_46 : decode mX3_fitted.2.1 46 = .ok (.l2i, 1) := by decide +kernel
theorem eX3_fitted_47 : decode mX3_fitted.2.1 47 = .ok (.i2s, 1) := by decide +kernel
theorem eX3_fitted_48 : decode mX3_fitted.2.1 48 = .ok (.i2l, 1) := by decide +kernel
theorem eX3_fitted_49 : decode mX3_fitted.2.1 49 = .ok (.lreturn, 1) := by decide +kernel
theorem eX3_fitted_50 : decode mX3_fitted.2.1 50 = .ok (.lload_n 1, 1) := by decide +kernel
theorem eX3_fitted_51 : decode mX3_fitted.2.1 51 = .ok (.l2i, 1) := by decide +kernel
theorem eX3_fitted_52 : decode mX3_fitted.2.1 52 = .ok (.i2l, 1) := by decide +kernel
theorem eX3_fitted_53 : decode mX3_fitted.2.1 53 = .ok (.lreturn, 1) := by decide +kernel
theorem eX3_fitted_54 : decode mX3_fitted.2.1 54 = .ok (.lload_n 1, 1) := by decide +kernel
theorem eX3_fitted_55 : decode mX3_fitted.2.1 55 = .ok (.lconst 0, 1) := by decide +kernel
theorem eX3_fitted_56 : decode mX3_fitted.2.1 56 = .ok (.lcmp, 1) := by decide +kernel
theorem eX3_fitted_57 : decode mX3_fitted.2.1 57 = .ok (.ifCond .eq 7, 3) := by decide +kernel
theorem eX3_fitted_60 : decode mX3_fitted.2.1 60 = .ok (.lconst 1, 1) := by decide +kernel
theorem eX3_fitted_61 : decode mX3_fitted.2.1 61 = .ok (.goto 4, 3) := by decide +kernel
theorem eX3_fitted_64 : decode mX3_fitted.2.1 64 = .ok (.lconst 0, 1) := by decide +kernel
theorem eX3_fitted_65 : decode mX3_fitted.2.1 65 = .ok (.lreturn, 1) := by decide +kernel
theorem eX3_fitted_66 : decode mX3_fitted.2.1 66 = .ok (.lload_n 1, 1) := by decide +kernel
theorem eX3_fitted_67 : decode mX3_fitted.2.1 67 = .ok (.lreturn, 1) := by decide +kernel
theorem c_X3_fitted {a : Nat} {k : Nat} (hk : k < 5) {n : Int32} {f : Nat → Int64} (hR : TAt h a (nI k) n f) (x : Int64) (hd : 0 ≤ d) : Ct l G mX3_fitted yX3_fitted d 0 0 [.ref a, .long x] h (fun r h' => r = some (.long (sFit (nI k) x)) ∧ h' = h) := by
  refine ct_of (lv := [some (.ref a), some (.long x), none]) (by decide +kernel) rfl (fun z => by cases z) (fun _ => rfl) (fun _ => Nat.le_of_ble_eq_true rfl) ?_
  refine aw_aload_n (pc' := 1) eX3_fitted_0 rfl rfl trivial ?_
  refine aw_Oget (pc' := 4) (ci := 3) (kf := 1) (N := 3) (.int (nI k)) hR.1 eX3_fitted_1 rfl rfl rfl inX3 (by decide) q238 rfl ?_
  refine aw_tsw (v := 0) (tgt := 40) eX3_fitted_4 (by decide) (by decide) rfl (by decide) (fun c_4 => ?_) (fun n_4_0 => ?_)
  · refine aw_lload_n (pc' := 41) eX3_fitted_40 rfl rfl ?_
    refine aw_l2i (pc' := 42) eX3_fitted_41 rfl ?_
    refine aw_i2b (pc' := 43) eX3_fitted_42 rfl ?_
    refine aw_i2l (pc' := 44) eX3_fitted_43 rfl ?_
    refine aw_ret (v := some (.long _)) eX3_fitted_44 ⟨rfl, rfl⟩ (by omega) (by omega) rfl ?_
    refine ⟨?_, rfl⟩
    simp [sFit, c_4]
  refine aw_tsw (v := 1) (tgt := 45) eX3_fitted_4 (by decide) (by decide) rfl (by decide) (fun c_4 => ?_) (fun n_4_1 => ?_)
  · refine aw_lload_n (pc' := 46) eX3_fitted_45 rfl rfl ?_
    refine aw_l2i (pc' := 47) eX3_fitted_46 rfl ?_
    refine aw_i2s (pc' := 48) eX3_fitted_47 rfl ?_
    refine aw_i2l (pc' := 49) eX3_fitted_48 rfl ?_
    refine aw_ret (v := some (.long _)) eX3_fitted_49 ⟨rfl, rfl⟩ (by omega) (by omega) rfl ?_
    refine ⟨?_, rfl⟩
    simp [sFit, n_4_0, c_4]
  refine aw_tsw (v := 2) (tgt := 50) eX3_fitted_4 (by decide) (by decide) rfl (by decide) (fun c_4 => ?_) (fun n_4_2 => ?_)
  · refine aw_lload_n (pc' := 51) eX3_fitted_50 rfl rfl ?_
    refine aw_l2i (pc' := 52) eX3_fitted_51 rfl ?_
    refine aw_i2l (pc' := 53) eX3_fitted_52 rfl ?_
    refine aw_ret (v := some (.long _)) eX3_fitted_53 ⟨rfl, rfl⟩ (by omega) (by omega) rfl ?_
    refine ⟨?_, rfl⟩
    simp [sFit, n_4_0, n_4_1, c_4]
  refine aw_tsw (v := 3) (tgt := 66) eX3_fitted_4 (by decide) (by decide) rfl (by decide) (fun c_4 => ?_) (fun n_4_3 => ?_)
  · refine aw_lload_n (pc' := 67) eX3_fitted_66 rfl rfl ?_
    refine aw_ret (v := some (.long _)) eX3_fitted_67 ⟨rfl, rfl⟩ (by omega) (by omega) rfl ?_
    refine ⟨?_, rfl⟩
    simp [sFit, n_4_0, n_4_1, n_4_2, c_4]
  refine aw_tsw (v := 4) (tgt := 54) eX3_fitted_4 (by decide) (by decide) rfl (by decide) (fun c_4 => ?_) (fun n_4_4 => ?_)
  · refine aw_lload_n (pc' := 55) eX3_fitted_54 rfl rfl ?_
    refine aw_lconst (pc' := 56) (v := 0) eX3_fitted_55 rfl (by decide) ?_
    refine aw_lcmp (pc' := 57) eX3_fitted_56 rfl ?_
    refine aw_if_eq (pc' := 60) (tgt := 64) eX3_fitted_57 rfl (by decide) (fun c_57 => ?_) (fun c_57 => ?_)
    · refine aw_lconst (pc' := 65) (v := 0) eX3_fitted_64 rfl (by decide) ?_
      refine aw_ret (v := some (.long _)) eX3_fitted_65 ⟨rfl, rfl⟩ (by omega) (by omega) rfl ?_
      refine ⟨?_, rfl⟩
      simp [sFit, n_4_0, n_4_1, n_4_2, n_4_3, c_4, c_57]
    · refine aw_lconst (pc' := 61) (v := 1) eX3_fitted_60 rfl (by decide) ?_
      refine aw_goto eX3_fitted_61 (by decide) (tgt := 65) ?_
      refine aw_ret (v := some (.long _)) eX3_fitted_65 ⟨rfl, rfl⟩ (by omega) (by omega) rfl ?_
      refine ⟨?_, rfl⟩
      simp [sFit, n_4_0, n_4_1, n_4_2, n_4_3, c_4, c_57]
  refine aw_tswo (tgt := 66) eX3_fitted_4 (by have g0 := zne n_4_0 (show ((0 : Int32)).toInt = 0 by decide); have g1 := zne n_4_1 (show ((1 : Int32)).toInt = 1 by decide); have g2 := zne n_4_2 (show ((2 : Int32)).toInt = 2 by decide); have g3 := zne n_4_3 (show ((3 : Int32)).toInt = 3 by decide); have g4 := zne n_4_4 (show ((4 : Int32)).toInt = 4 by decide); omega) (by decide) ?_
  refine aw_lload_n (pc' := 67) eX3_fitted_66 rfl rfl ?_
  refine aw_ret (v := some (.long _)) eX3_fitted_67 ⟨rfl, rfl⟩ (by omega) (by omega) rfl ?_
  exfalso
  rcases (by omega : k = 0 ∨ k = 1 ∨ k = 2 ∨ k = 3 ∨ k = 4) with rfl | rfl | rfl | rfl | rfl
  · exact n_4_0 rfl
  · exact n_4_1 rfl
  · exact n_4_2 rfl
  · exact n_4_3 rfl
  · exact n_4_4 rfl
abbrev mX4_becomesThatOf : MT := (RX4, cX4_becomesThatOf, 4, none, false)
theorem eX4_becomesThatOf_0 : decode mX4_becomesThatOf.2.1 0 = .ok (.aload_n 0, 1) := by decide +kernel
theorem eX4_becomesThatOf_1 : decode mX4_becomesThatOf.2.1 1 = .ok (.iload_n 1, 1) := by decide +kernel
theorem eX4_becomesThatOf_2 : decode mX4_becomesThatOf.2.1 2 = .ok (.putfield 19, 3) := by decide +kernel
theorem eX4_becomesThatOf_5 : decode mX4_becomesThatOf.2.1 5 = .ok (.aload_n 0, 1) := by decide +kernel
theorem eX4_becomesThatOf_6 : decode mX4_becomesThatOf.2.1 6 = .ok (.iload_n 2, 1) := by decide +kernel
theorem eX4_becomesThatOf_7 : decode mX4_becomesThatOf.2.1 7 = .ok (.putfield 22, 3) := by decide +kernel
theorem eX4_becomesThatOf_10 : decode mX4_becomesThatOf.2.1 10 = .ok (.aload_n 0, 1) := by decide +kernel
theorem eX4_becomesThatOf_11 : decode mX4_becomesThatOf.2.1 11 = .ok (.iload_n 3, 1) := by decide +kernel
theorem eX4_becomesThatOf_12 : decode mX4_becomesThatOf.2.1 12 = .ok (.putfield 25, 3) := by decide +kernel
theorem eX4_becomesThatOf_15 : decode mX4_becomesThatOf.2.1 15 = .ok (.aload_n 0, 1) := by decide +kernel
theorem eX4_becomesThatOf_16 : decode mX4_becomesThatOf.2.1 16 = .ok (.iconst 0, 1) := by decide +kernel
theorem eX4_becomesThatOf_17 : decode mX4_becomesThatOf.2.1 17 = .ok (.putfield 15, 3) := by decide +kernel
theorem eX4_becomesThatOf_20 : decode mX4_becomesThatOf.2.1 20 = .ok (.return_, 1) := by decide +kernel
theorem c_X4_becomesThatOf {a : Nat} {i K v : Int32} {s : TS} (hR : VAt h a i K v s) (i2 K2 v2 : Int32) (hd : 0 ≤ d) : Ct l G mX4_becomesThatOf yX4_becomesThatOf d 0 0 [.ref a, .int i2, .int K2, .int v2] h (fun r h' => r = none ∧ VAt h' a i2 K2 v2 (s.1, 0) ∧ Same a 2 h h') := by
  refine ct_of (lv := [some (.ref a), some (.int i2), some (.int K2), some (.int v2)]) (by decide +kernel) rfl (fun z => by cases z) (fun _ => rfl) (fun _ => Nat.le_of_ble_eq_true rfl) ?_
  refine aw_aload_n (pc' := 1) eX4_becomesThatOf_0 rfl rfl trivial ?_
  refine aw_iload_n (pc' := 2) eX4_becomesThatOf_1 rfl rfl ?_
  refine aw_Oput (pc' := 5) (ci := 4) (kf := 2) (N := 5) (ty0 := tyX4) [.ref (a + 1), .int (nI s.2), .int i2, .int K, .int v] hR.1 eX4_becomesThatOf_2 rfl rfl rfl inX4 tyX4_ok nmX4 (by decide) q217 rfl (by first | trivial | exact Or.inl rfl | exact Or.inr rfl | (simp [zfit]; done)) rfl (fun h3 hO1 hs2 => ?_)
  have hz4 := hs2.w (w2 := a) (n2 := 2) (by omega) (by omega)
  have hF5 := hR.2.fr hs2 (by omega)
  refine aw_aload_n (pc' := 6) eX4_becomesThatOf_5 rfl rfl trivial ?_
  refine aw_iload_n (pc' := 7) eX4_becomesThatOf_6 rfl rfl ?_
  refine aw_Oput (pc' := 10) (ci := 4) (kf := 3) (N := 5) (ty0 := tyX4) [.ref (a + 1), .int (nI s.2), .int i2, .int K2, .int v] hO1 eX4_becomesThatOf_7 rfl rfl rfl inX4 tyX4_ok nmX4 (by decide) q218 rfl (by first | trivial | exact Or.inl rfl | exact Or.inr rfl | (simp [zfit]; done)) rfl (fun h8 hO6 hs7 => ?_)
  have hz9 := hs7.w (w2 := a) (n2 := 2) (by omega) (by omega)
  have hT10 := hz4.tr hz9
  have hF11 := hF5.fr hs7 (by omega)
  refine aw_aload_n (pc' := 11) eX4_becomesThatOf_10 rfl rfl trivial ?_
  refine aw_iload_n (pc' := 12) eX4_becomesThatOf_11 rfl rfl ?_
  refine aw_Oput (pc' := 15) (ci := 4) (kf := 4) (N := 5) (ty0 := tyX4) [.ref (a + 1), .int (nI s.2), .int i2, .int K2, .int v2] hO6 eX4_becomesThatOf_12 rfl rfl rfl inX4 tyX4_ok nmX4 (by decide) q219 rfl (by first | trivial | exact Or.inl rfl | exact Or.inr rfl | (simp [zfit]; done)) rfl (fun h14 hO12 hs13 => ?_)
  have hz15 := hs13.w (w2 := a) (n2 := 2) (by omega) (by omega)
  have hT16 := hT10.tr hz15
  have hF17 := hF11.fr hs13 (by omega)
  refine aw_aload_n (pc' := 16) eX4_becomesThatOf_15 rfl rfl trivial ?_
  refine aw_iconst (pc' := 17) (v := 0) eX4_becomesThatOf_16 rfl (by decide) ?_
  refine aw_Oput (pc' := 20) (ci := 4) (kf := 1) (N := 5) (ty0 := tyX4) [.ref (a + 1), .int (nI 0), .int i2, .int K2, .int v2] hO12 eX4_becomesThatOf_17 rfl rfl rfl inX4 tyX4_ok nmX4 (by decide) q215 rfl (by first | trivial | exact Or.inl rfl | exact Or.inr rfl | (simp [zfit]; done)) rfl (fun h20 hO18 hs19 => ?_)
  have hz21 := hs19.w (w2 := a) (n2 := 2) (by omega) (by omega)
  have hT22 := hT16.tr hz21
  have hF23 := hF17.fr hs19 (by omega)
  refine aw_ret (v := none) eX4_becomesThatOf_20 rfl (by omega) (by omega) rfl ?_
  exact ⟨rfl, ⟨hO18, hF23⟩, hT22⟩
section ZL
variable {M : MT} {mc ms k pc pc' : Nat} {lv : LV} {st : List Value}
theorem aw_L1 {j : Nat} {x : Int32} (hd : decode M.2.1 pc = .ok (.iaload, 1)) (hn : pc + 1 = pc') (hj : j < 7) (hx : x = nI j) (kk : AW l G M d mc ms Q k n h lv (.int (tabA j) :: st) pc') : AW l G M d mc ms Q k n h lv (.int x :: .ref 1 :: st) pc := by
  subst hx
  refine aw_low fun hL => ?_
  have e := low_1 hL
  refine aw_iaload hd hn (by rw [e]; rfl) (by rw [e]; exact vp_in_nI hj (by show 7 < 2147483648; omega)) ?_
  rw [e, nI_clamp (by omega)]
  exact kk
theorem aw_L2 {j : Nat} {x : Int32} (hd : decode M.2.1 pc = .ok (.iaload, 1)) (hn : pc + 1 = pc') (hj : j < 21) (hx : x = nI j) (kk : AW l G M d mc ms Q k n h lv (.int (tabB j) :: st) pc') : AW l G M d mc ms Q k n h lv (.int x :: .ref 2 :: st) pc := by
  subst hx
  refine aw_low fun hL => ?_
  have e := low_2 hL
  refine aw_iaload hd hn (by rw [e]; rfl) (by rw [e]; exact vp_in_nI hj (by show 21 < 2147483648; omega)) ?_
  rw [e, nI_clamp (by omega)]
  exact kk
theorem aw_Ln1 (hd : decode M.2.1 pc = .ok (.arraylength, 1)) (hn : pc + 1 = pc') (kk : AW l G M d mc ms Q k n h lv (.int (nI 7) :: st) pc') : AW l G M d mc ms Q k n h lv (.ref 1 :: st) pc := by
  refine aw_low fun hL => ?_
  have e := low_1 hL
  refine aw_alenL (kd := 0) hd hn (by omega) (by rw [e]; rfl) ?_
  rw [e]
  exact kk
theorem aw_Ln2 (hd : decode M.2.1 pc = .ok (.arraylength, 1)) (hn : pc + 1 = pc') (kk : AW l G M d mc ms Q k n h lv (.int (nI 21) :: st) pc') : AW l G M d mc ms Q k n h lv (.ref 2 :: st) pc := by
  refine aw_low fun hL => ?_
  have e := low_2 hL
  refine aw_alenL (kd := 0) hd hn (by omega) (by rw [e]; rfl) ?_
  rw [e]
  exact kk
end ZL
abbrev mX4_kindAbove : MT := (RX4, cX4_kindAbove, 1, (some .int), false)
theorem eX4_kindAbove_0 : decode mX4_kindAbove.2.1 0 = .ok (.iload_n 0, 1) := by decide +kernel
theorem eX4_kindAbove_1 : decode mX4_kindAbove.2.1 1 = .ok (.ifCond .lt 11, 3) := by decide +kernel
theorem eX4_kindAbove_4 : decode mX4_kindAbove.2.1 4 = .ok (.iload_n 0, 1) := by decide +kernel
theorem eX4_kindAbove_5 : decode mX4_kindAbove.2.1 5 = .ok (.getstatic 28, 3) := by decide +kernel
theorem eX4_kindAbove_8 : decode mX4_kindAbove.2.1 8 = .ok (.arraylength, 1) := by decide +kernel
theorem eX4_kindAbove_9 : decode mX4_kindAbove.2.1 9 = .ok (.if_icmp .lt 7, 3) := by decide +kernel
theorem eX4_kindAbove_12 : decode mX4_kindAbove.2.1 12 = .ok (.iconst 0, 1) := by decide +kernel
theorem eX4_kindAbove_13 : decode mX4_kindAbove.2.1 13 = .ok (.goto 8, 3) := by decide +kernel
theorem eX4_kindAbove_16 : decode mX4_kindAbove.2.1 16 = .ok (.getstatic 28, 3) := by decide +kernel
theorem eX4_kindAbove_19 : decode mX4_kindAbove.2.1 19 = .ok (.iload_n 0, 1) := by decide +kernel
theorem eX4_kindAbove_20 : decode mX4_kindAbove.2.1 20 = .ok (.iaload, 1) := by decide +kernel
theorem eX4_kindAbove_21 : decode mX4_kindAbove.2.1 21 = .ok (.ireturn, 1) := by decide +kernel
theorem c_X4_kindAbove {k : Nat} (hk : k < 7) (hd : 0 ≤ d) : Ct l G mX4_kindAbove yX4_kindAbove d 0 0 [.int (nI k)] h (fun r h' => r = some (.int (tabA k)) ∧ h' = h) := by
  refine ct_of (lv := [some (.int (nI k))]) (by decide +kernel) rfl (fun z => by cases z) (fun _ => rfl) (fun _ => Nat.le_of_ble_eq_true rfl) ?_
  refine aw_iload_n (pc' := 1) eX4_kindAbove_0 rfl rfl ?_
  refine aw_if_lt (pc' := 4) (tgt := 12) eX4_kindAbove_1 rfl (by decide) (fun c_1 => ?_) (fun c_1 => ?_)
  · exact absurd c_1 (by rw [Int32.lt_iff_toInt_lt, nI_toInt (by omega), show (0 : Int32).toInt = 0 from by decide]; omega)
  · refine aw_iload_n (pc' := 5) eX4_kindAbove_4 rfl rfl ?_
    refine aw_gets (pc' := 8) (a := 1) eX4_kindAbove_5 rfl (by decide) q744 ?_
    refine aw_Ln1 (pc' := 9) eX4_kindAbove_8 rfl ?_
    refine aw_icmp_lt (pc' := 12) (tgt := 16) eX4_kindAbove_9 rfl (by decide) (fun c_9 => ?_) (fun c_9 => ?_)
    · refine aw_gets (pc' := 19) (a := 1) eX4_kindAbove_16 rfl (by decide) q744 ?_
      refine aw_iload_n (pc' := 20) eX4_kindAbove_19 rfl rfl ?_
      refine aw_L1 (pc' := 21) (j := k) eX4_kindAbove_20 rfl hk rfl ?_
      refine aw_ret (v := some (.int _)) eX4_kindAbove_21 ⟨rfl, rfl⟩ (by omega) (by omega) rfl ?_
      exact ⟨rfl, rfl⟩
    · exact absurd ((nI_ltI (by omega) (by omega)).mpr hk) c_9
def aBd (K : Nat) (v i : Int32) (f : Nat) (b : Int32) (x : Int32) (s : TS) : Int32 × TS :=
  if b = 10 then (x + i, s)
  else if b = 11 then ((aRun K v i f K 0 x s).1 - v, (aRun K v i f K 0 x s).2)
  else if b = 12 then ((aRun K v i f K 1 x s).1 * 2, (aRun K v i f K 1 x s).2)
  else if b = 20 then ((aRun K v i f 0 1 x s).1 ^^^ 6, (aRun K v i f 0 1 x s).2)
  else if b = 30 then ((aRun K v i f 0 0 (x * 3) s).1, (aRun K v i f 0 0 (x * 3) s).2)
  else if b = 40 then ((aRun K v i f 0 2 x s).1 + (aRun K v i f K 1 1 (aRun K v i f 0 2 x s).2).1, (aRun K v i f K 1 1 (aRun K v i f 0 2 x s).2).2)
  else if b = 50 then (-(aRun K v i f 1 0 x s).1, (aRun K v i f 1 0 x s).2)
  else if b = 51 then ((aRun K v i f 1 1 (x + 1) s).1, (aRun K v i f 1 1 (x + 1) s).2)
  else if b = 60 then ((aRun K v i f 2 2 (x - i) s).1, (aRun K v i f 2 2 (x - i) s).2)
  else if b = 70 then ((aRun K v i f 3 1 x s).1 + (aRun K v i f 3 0 2 (aRun K v i f 3 1 x s).2).1, (aRun K v i f 3 0 2 (aRun K v i f 3 1 x s).2).2)
  else ((aRun K v i f 3 0 x s).1 ^^^ v, (aRun K v i f 3 0 x s).2)
theorem aRun_s (K : Nat) (v i : Int32) (f k a : Nat) (x : Int32) (s : TS) : aRun K v i (f + 1) k a x s = aBd K v i f (tabB (3 * k + a)) x (tPush (tabB (3 * k + a)) s) := rfl
abbrev mX4_from : MT := (RX4, cX4_from, 6, (some .int), false)
theorem eX4_from_0 : decode mX4_from.2.1 0 = .ok (.iload_n 1, 1) := by decide +kernel
theorem eX4_from_1 : decode mX4_from.2.1 1 = .ok (.iconst 3, 1) := by decide +kernel
theorem eX4_from_2 : decode mX4_from.2.1 2 = .ok (.imul, 1) := by decide +kernel
theorem eX4_from_3 : decode mX4_from.2.1 3 = .ok (.iload_n 2, 1) := by decide +kernel
theorem eX4_from_4 : decode mX4_from.2.1 4 = .ok (.iadd, 1) := by decide +kernel
theorem eX4_from_5 : decode mX4_from.2.1 5 = .ok (.istore 5, 2) := by decide +kernel
theorem eX4_from_7 : decode mX4_from.2.1 7 = .ok (.iload 4, 2) := by decide +kernel
theorem eX4_from_9 : decode mX4_from.2.1 9 = .ok (.bipush 20, 2) := by decide +kernel
theorem eX4_from_11 : decode mX4_from.2.1 11 = .ok (.if_icmp .gt 17, 3) := by decide +kernel
theorem eX4_from_14 : decode mX4_from.2.1 14 = .ok (.iload 5, 2) := by decide +kernel
theorem eX4_from_16 : decode mX4_from.2.1 16 = .ok (.ifCond .lt 12, 3) := by decide +kernel
theorem eX4_from_19 : decode mX4_from.2.1 19 = .ok (.iload 5, 2) := by decide +kernel
theorem eX4_from_21 : decode mX4_from.2.1 21 = .ok (.getstatic 35, 3) := by decide +kernel
theorem eX4_from_24 : decode mX4_from.2.1 24 = .ok (.arraylength, 1) := by decide +kernel
theorem eX4_from_25 : decode mX4_from.2.1 25 = .ok (.if_icmp .lt 5, 3) := by decide +kernel
theorem eX4_from_28 : decode mX4_from.2.1 28 = .ok (.iconst 0, 1) := by decide +kernel
theorem eX4_from_29 : decode mX4_from.2.1 29 = .ok (.ireturn, 1) := by decide +kernel
theorem eX4_from_30 : decode mX4_from.2.1 30 = .ok (.aload_n 0, 1) := by decide +kernel
theorem eX4_from_31 : decode mX4_from.2.1 31 = .ok (.getfield 15, 3) := by decide +kernel
theorem eX4_from_34 : decode mX4_from.2.1 34 = .ok (.aload_n 0, 1) := by decide +kernel
theorem eX4_from_35 : decode mX4_from.2.1 35 = .ok (.getfield 9, 3) := by decide +kernel
theorem eX4_from_38 : decode mX4_from.2.1 38 = .ok (.arraylength, 1) := by decide +kernel
theorem eX4_from_39 : decode mX4_from.2.1 39 = .ok (.if_icmp .ge 18, 3) := by decide +kernel
theorem eX4_from_42 : decode mX4_from.2.1 42 = .ok (.aload_n 0, 1) := by decide +kernel
theorem eX4_from_43 : decode mX4_from.2.1 43 = .ok (.getfield 9, 3) := by decide +kernel
theorem eX4_from_46 : decode mX4_from.2.1 46 = .ok (.aload_n 0, 1) := by decide +kernel
theorem eX4_from_47 : decode mX4_from.2.1 47 = .ok (.getfield 15, 3) := by decide +kernel
theorem eX4_from_50 : decode mX4_from.2.1 50 = .ok (.getstatic 35, 3) := by decide +kernel
theorem eX4_from_53 : decode mX4_from.2.1 53 = .ok (.iload 5, 2) := by decide +kernel
theorem eX4_from_55 : decode mX4_from.2.1 55 = .ok (.iaload, 1) := by decide +kernel
theorem eX4_from_56 : decode mX4_from.2.1 56 = .ok (.iastore, 1) := by decide +kernel
theorem eX4_from_57 : decode mX4_from.2.1 57 = .ok (.aload_n 0, 1) := by decide +kernel
theorem eX4_from_58 : decode mX4_from.2.1 58 = .ok (.dup, 1) := by decide +kernel
theorem eX4_from_59 : decode mX4_from.2.1 59 = .ok (.getfield 15, 3) := by decide +kernel
theorem eX4_from_62 : decode mX4_from.2.1 62 = .ok (.iconst 1, 1) := by decide +kernel
theorem eX4_from_63 : decode mX4_from.2.1 63 = .ok (.iadd, 1) := by decide +kernel
theorem eX4_from_64 : decode mX4_from.2.1 64 = .ok (.putfield 15, 3) := by decide +kernel
theorem eX4_from_67 : decode mX4_from.2.1 67 = .ok (.aload_n 0, 1) := by decide +kernel
theorem eX4_from_68 : decode mX4_from.2.1 68 = .ok (.getstatic 35, 3) := by decide +kernel
theorem eX4_from_71 : decode mX4_from.2.1 71 = .ok (.iload 5, 2) := by decide +kernel
theorem eX4_from_73 : decode mX4_from.2.1 73 = .ok (.iaload, 1) := by decide +kernel
theorem eX4_from_74 : decode mX4_from.2.1 74 = .ok (.iload_n 3, 1) := by decide +kernel
theorem eX4_from_75 : decode mX4_from.2.1 75 = .ok (.iload 4, 2) := by decide +kernel
theorem eX4_from_77 : decode mX4_from.2.1 77 = .ok (.iconst 1, 1) := by decide +kernel
theorem eX4_from_78 : decode mX4_from.2.1 78 = .ok (.iadd, 1) := by decide +kernel
theorem eX4_from_79 : decode mX4_from.2.1 79 = .ok (.invokevirtual 38, 3) := by decide +kernel
theorem eX4_from_82 : decode mX4_from.2.1 82 = .ok (.ireturn, 1) := by decide +kernel
abbrev mX4_body : MT := (RX4, cX4_body, 4, (some .int), false)
theorem eX4_body_0 : decode mX4_body.2.1 0 = .ok (.iload_n 1, 1) := by decide +kernel
theorem eX4_body_1 : decode mX4_body.2.1 1 = .ok (.lookupswitch 248 #[(10, 99), (11, 106), (12, 123), (20, 137), (30, 149), (40, 160), (50, 181), (51, 191), (60, 202), (70, 216), (71, 234)], 99) := by decide +kernel
theorem eX4_body_100 : decode mX4_body.2.1 100 = .ok (.iload_n 2, 1) := by decide +kernel
theorem eX4_body_101 : decode mX4_body.2.1 101 = .ok (.aload_n 0, 1) := by decide +kernel
theorem eX4_body_102 : decode mX4_body.2.1 102 = .ok (.getfield 19, 3) := by decide +kernel
theorem eX4_body_105 : decode mX4_body.2.1 105 = .ok (.iadd, 1) := by decide +kernel
theorem eX4_body_106 : decode mX4_body.2.1 106 = .ok (.ireturn, 1) := by decide +kernel
theorem eX4_body_107 : decode mX4_body.2.1 107 = .ok (.aload_n 0, 1) := by decide +kernel
theorem eX4_body_108 : decode mX4_body.2.1 108 = .ok (.aload_n 0, 1) := by decide +kernel
theorem eX4_body_109 : decode mX4_body.2.1 109 = .ok (.getfield 22, 3) := by decide +kernel
theorem eX4_body_112 : decode mX4_body.2.1 112 = .ok (.iconst 0, 1) := by decide +kernel
theorem eX4_body_113 : decode mX4_body.2.1 113 = .ok (.iload_n 2, 1) := by decide +kernel
theorem eX4_body_114 : decode mX4_body.2.1 114 = .ok (.iload_n 3, 1) := by decide +kernel
theorem eX4_body_115 : decode mX4_body.2.1 115 = .ok (.invokevirtual 31, 3) := by decide +kernel
theorem eX4_body_118 : decode mX4_body.2.1 118 = .ok (.aload_n 0, 1) := by decide +kernel
theorem eX4_body_119 : decode mX4_body.2.1 119 = .ok (.getfield 25, 3) := by decide +kernel
theorem eX4_body_122 : decode mX4_body.2.1 122 = .ok (.isub, 1) := by decide +kernel
theorem eX4_body_123 : decode mX4_body.2.1 123 = .ok (.ireturn, 1) := by decide +kernel
theorem eX4_body_124 : decode mX4_body.2.1 124 = .ok (.aload_n 0, 1) := by decide +kernel
theorem eX4_body_125 : decode mX4_body.2.1 125 = .ok (.aload_n 0, 1) := by decide +kernel
theorem eX4_body_126 : decode mX4_body.2.1 126 = .ok (.getfield 22, 3) := by decide +kernel
theorem eX4_body_129 : decode mX4_body.2.1 129 = .ok (.iconst 1, 1) := by decide +kernel
theorem eX4_body_130 : decode mX4_body.2.1 130 = .ok (.iload_n 2, 1) := by decide +kernel
theorem eX4_body_131 : decode mX4_body.2.1 131 = .ok (.iload_n 3, 1) := by decide +kernel
theorem eX4_body_132 : decode mX4_body.2.1 132 = .ok (.invokevirtual 31, 3) := by decide +kernel
theorem eX4_body_135 : decode mX4_body.2.1 135 = .ok (.iconst 2, 1) := by decide +kernel
theorem eX4_body_136 : decode mX4_body.2.1 136 = .ok (.imul, 1) := by decide +kernel
theorem eX4_body_137 : decode mX4_body.2.1 137 = .ok (.ireturn, 1) := by decide +kernel
theorem eX4_body_138 : decode mX4_body.2.1 138 = .ok (.aload_n 0, 1) := by decide +kernel
theorem eX4_body_139 : decode mX4_body.2.1 139 = .ok (.iconst 0, 1) := by decide +kernel
theorem eX4_body_140 : decode mX4_body.2.1 140 = .ok (.iconst 1, 1) := by decide +kernel
theorem eX4_body_141 : decode mX4_body.2.1 141 = .ok (.iload_n 2, 1) := by decide +kernel
theorem eX4_body_142 : decode mX4_body.2.1 142 = .ok (.iload_n 3, 1) := by decide +kernel
theorem eX4_body_143 : decode mX4_body.2.1 143 = .ok (.invokevirtual 31, 3) := by decide +kernel
theorem eX4_body_146 : decode mX4_body.2.1 146 = .ok (.bipush 6, 2) := by decide +kernel
theorem eX4_body_148 : decode mX4_body.2.1 148 = .ok (.ixor, 1) := by decide +kernel
theorem eX4_body_149 : decode mX4_body.2.1 149 = .ok (.ireturn, 1) := by decide +kernel
theorem eX4_body_150 : decode mX4_body.2.1 150 = .ok (.aload_n 0, 1) := by decide +kernel
theorem eX4_body_151 : decode mX4_body.2.1 151 = .ok (.iconst 0, 1) := by decide +kernel
theorem eX4_body_152 : decode mX4_body.2.1 152 = .ok (.iconst 0, 1) := by decide +kernel
theorem eX4_body_153 : decode mX4_body.2.1 153 = .ok (.iload_n 2, 1) := by decide +kernel
theorem eX4_body_154 : decode mX4_body.2.1 154 = .ok (.iconst 3, 1) := by decide +kernel
theorem eX4_body_155 : decode mX4_body.2.1 155 = .ok (.imul, 1) := by decide +kernel
theorem eX4_body_156 : decode mX4_body.2.1 156 = .ok (.iload_n 3, 1) := by decide +kernel
theorem eX4_body_157 : decode mX4_body.2.1 157 = .ok (.invokevirtual 31, 3) := by decide +kernel
theorem eX4_body_160 : decode mX4_body.2.1 160 = .ok (.ireturn, 1) := by decide +kernel
theorem eX4_body_161 : decode mX4_body.2.1 161 = .ok (.aload_n 0, 1) := by decide +kernel
theorem eX4_body_162 : decode mX4_body.2.1 162 = .ok (.iconst 0, 1) := by decide +kernel
theorem eX4_body_163 : decode mX4_body.2.1 163 = .ok (.iconst 2, 1) := by decide +kernel
theorem eX4_body_164 : decode mX4_body.2.1 164 = .ok (.iload_n 2, 1) := by decide +kernel
theorem eX4_body_165 : decode mX4_body.2.1 165 = .ok (.iload_n 3, 1) := by decide +kernel
theorem eX4_body_166 : decode mX4_body.2.1 166 = .ok (.invokevirtual 31, 3) := by decide +kernel
theorem eX4_body_169 : decode mX4_body.2.1 169 = .ok (.aload_n 0, 1) := by decide +kernel
theorem eX4_body_170 : decode mX4_body.2.1 170 = .ok (.aload_n 0, 1) := by decide +kernel
theorem eX4_body_171 : decode mX4_body.2.1 171 = .ok (.getfield 22, 3) := by decide +kernel
theorem eX4_body_174 : decode mX4_body.2.1 174 = .ok (.iconst 1, 1) := by decide +kernel
theorem eX4_body_175 : decode mX4_body.2.1 175 = .ok (.iconst 1, 1) := by decide +kernel
theorem eX4_body_176 : decode mX4_body.2.1 176 = .ok (.iload_n 3, 1) := by decide +kernel
theorem eX4_body_177 : decode mX4_body.2.1 177 = .ok (.invokevirtual 31, 3) := by decide +kernel
theorem eX4_body_180 : decode mX4_body.2.1 180 = .ok (.iadd, 1) := by decide +kernel
theorem eX4_body_181 : decode mX4_body.2.1 181 = .ok (.ireturn, 1) := by decide +kernel
theorem eX4_body_182 : decode mX4_body.2.1 182 = .ok (.aload_n 0, 1) := by decide +kernel
theorem eX4_body_183 : decode mX4_body.2.1 183 = .ok (.iconst 1, 1) := by decide +kernel
theorem eX4_body_184 : decode mX4_body.2.1 184 = .ok (.iconst 0, 1) := by decide +kernel
theorem eX4_body_185 : decode mX4_body.2.1 185 = .ok (.iload_n 2, 1) := by decide +kernel
theorem eX4_body_186 : decode mX4_body.2.1 186 = .ok (.iload_n 3, 1) := by decide +kernel
theorem eX4_body_187 : decode mX4_body.2.1 187 = .ok (.invokevirtual 31, 3) := by decide +kernel
theorem eX4_body_190 : decode mX4_body.2.1 190 = .ok (.ineg, 1) := by decide +kernel
theorem eX4_body_191 : decode mX4_body.2.1 191 = .ok (.ireturn, 1) := by decide +kernel
theorem eX4_body_192 : decode mX4_body.2.1 192 = .ok (.aload_n 0, 1) := by decide +kernel
theorem eX4_body_193 : decode mX4_body.2.1 193 = .ok (.iconst 1, 1) := by decide +kernel
theorem eX4_body_194 : decode mX4_body.2.1 194 = .ok (.iconst 1, 1) := by decide +kernel
theorem eX4_body_195 : decode mX4_body.2.1 195 = .ok (.iload_n 2, 1) := by decide +kernel
theorem eX4_body_196 : decode mX4_body.2.1 196 = .ok (.iconst 1, 1) := by decide +kernel
theorem eX4_body_197 : decode mX4_body.2.1 197 = .ok (.iadd, 1) := by decide +kernel
theorem eX4_body_198 : decode mX4_body.2.1 198 = .ok (.iload_n 3, 1) := by decide +kernel
theorem eX4_body_199 : decode mX4_body.2.1 199 = .ok (.invokevirtual 31, 3) := by decide +kernel
theorem eX4_body_202 : decode mX4_body.2.1 202 = .ok (.ireturn, 1) := by decide +kernel
theorem eX4_body_203 : decode mX4_body.2.1 203 = .ok (.aload_n 0, 1) := by decide +kernel
theorem eX4_body_204 : decode mX4_body.2.1 204 = .ok (.iconst 2, 1) := by decide +kernel
theorem eX4_body_205 : decode mX4_body.2.1 205 = .ok (.iconst 2, 1) := by decide +kernel
theorem eX4_body_206 : decode mX4_body.2.1 206 = .ok (.iload_n 2, 1) := by decide +kernel
theorem eX4_body_207 : decode mX4_body.2.1 207 = .ok (.aload_n 0, 1) := by decide +kernel
theorem eX4_body_208 : decode mX4_body.2.1 208 = .ok (.getfield 19, 3) := by decide +kernel
theorem eX4_body_211 : decode mX4_body.2.1 211 = .ok (.isub, 1) := by decide +kernel
theorem eX4_body_212 : decode mX4_body.2.1 212 = .ok (.iload_n 3, 1) := by decide +kernel
theorem eX4_body_213 : decode mX4_body.2.1 213 = .ok (.invokevirtual 31, 3) := by decide +kernel
theorem eX4_body_216 : decode mX4_body.2.1 216 = .ok (.ireturn, 1) := by decide +kernel
theorem eX4_body_217 : decode mX4_body.2.1 217 = .ok (.aload_n 0, 1) := by decide +kernel
theorem eX4_body_218 : decode mX4_body.2.1 218 = .ok (.iconst 3, 1) := by decide +kernel
theorem eX4_body_219 : decode mX4_body.2.1 219 = .ok (.iconst 1, 1) := by decide +kernel
theorem eX4_body_220 : decode mX4_body.2.1 220 = .ok (.iload_n 2, 1) := by decide +kernel
theorem eX4_body_221 : decode mX4_body.2.1 221 = .ok (.iload_n 3, 1) := by decide +kernel
theorem eX4_body_222 : decode mX4_body.2.1 222 = .ok (.invokevirtual 31, 3) := by decide +kernel
theorem eX4_body_225 : decode mX4_body.2.1 225 = .ok (.aload_n 0, 1) := by decide +kernel
theorem eX4_body_226 : decode mX4_body.2.1 226 = .ok (.iconst 3, 1) := by decide +kernel
theorem eX4_body_227 : decode mX4_body.2.1 227 = .ok (.iconst 0, 1) := by decide +kernel
theorem eX4_body_228 : decode mX4_body.2.1 228 = .ok (.iconst 2, 1) := by decide +kernel
theorem eX4_body_229 : decode mX4_body.2.1 229 = .ok (.iload_n 3, 1) := by decide +kernel
theorem eX4_body_230 : decode mX4_body.2.1 230 = .ok (.invokevirtual 31, 3) := by decide +kernel
theorem eX4_body_233 : decode mX4_body.2.1 233 = .ok (.iadd, 1) := by decide +kernel
theorem eX4_body_234 : decode mX4_body.2.1 234 = .ok (.ireturn, 1) := by decide +kernel
theorem eX4_body_235 : decode mX4_body.2.1 235 = .ok (.aload_n 0, 1) := by decide +kernel
theorem eX4_body_236 : decode mX4_body.2.1 236 = .ok (.iconst 3, 1) := by decide +kernel
theorem eX4_body_237 : decode mX4_body.2.1 237 = .ok (.iconst 0, 1) := by decide +kernel
theorem eX4_body_238 : decode mX4_body.2.1 238 = .ok (.iload_n 2, 1) := by decide +kernel
theorem eX4_body_239 : decode mX4_body.2.1 239 = .ok (.iload_n 3, 1) := by decide +kernel
theorem eX4_body_240 : decode mX4_body.2.1 240 = .ok (.invokevirtual 31, 3) := by decide +kernel
theorem eX4_body_243 : decode mX4_body.2.1 243 = .ok (.aload_n 0, 1) := by decide +kernel
theorem eX4_body_244 : decode mX4_body.2.1 244 = .ok (.getfield 25, 3) := by decide +kernel
theorem eX4_body_247 : decode mX4_body.2.1 247 = .ok (.ixor, 1) := by decide +kernel
theorem eX4_body_248 : decode mX4_body.2.1 248 = .ok (.ireturn, 1) := by decide +kernel
theorem eX4_body_249 : decode mX4_body.2.1 249 = .ok (.iconst 0, 1) := by decide +kernel
theorem eX4_body_250 : decode mX4_body.2.1 250 = .ok (.ireturn, 1) := by decide +kernel
def VC (l : Launch) (G : GT) (e K : Nat) (v i : Int32) (f : Nat) : Prop := ∀ (d D k a : Nat) (x : Int32) (s : TS) (h : Hp), f + D = 21 → k < 7 → a < 3 → s.2 + pw f ≤ 1000000000 → VAt h e i (nI K) v s → 2 * f + 1 ≤ d → Ct l G mX4_from yX4_from d 0 0 [.ref e, .int (nI k), .int (nI a), .int x, .int (nI D)] h (fun r h' => r = some (.int (aRun K v i f k a x s).1) ∧ VAt h' e i (nI K) v (aRun K v i f k a x s).2 ∧ Same e 2 h h')
theorem c_X4_body {e K f D b : Nat} {v i x : Int32} {s : TS} (ih : VC l G e K v i f) (hD : f + D = 21) (hb : b < 21) (hK : K < 7) (hs : s.2 + 2 * pw f ≤ 1000000000 + 1) (hV : VAt h e i (nI K) v s) (hd : 2 * f + 2 ≤ d) : Ct l G mX4_body yX4_body d 0 0 [.ref e, .int (tabB b), .int x, .int (nI D)] h (fun r h' => r = some (.int (aBd K v i f (tabB b) x s).1) ∧ VAt h' e i (nI K) v (aBd K v i f (tabB b) x s).2 ∧ Same e 2 h h') := by
  have hpp := pw_pos f
  refine ct_of (lv := [some (.ref e), some (.int (tabB b)), some (.int x), some (.int (nI D))]) (by decide +kernel) rfl (fun z => by cases z) (fun _ => rfl) (fun _ => Nat.le_of_ble_eq_true rfl) ?_
  refine aw_iload_n (pc' := 1) eX4_body_0 rfl rfl ?_
  refine aw_lsw (v := 10) (off := 99) (tgt := 100) eX4_body_1 (by decide) (by decide) (by decide) (fun c_1 => ?_) (fun n_1_0 => ?_)
  · refine aw_iload_n (pc' := 101) eX4_body_100 rfl rfl ?_
    refine aw_aload_n (pc' := 102) eX4_body_101 rfl rfl trivial ?_
    refine aw_Oget (pc' := 105) (ci := 4) (kf := 2) (N := 5) (.int i) (hV).1 eX4_body_102 rfl rfl rfl inX4 (by decide) q217 rfl ?_
    refine aw_iadd (pc' := 106) eX4_body_105 rfl ?_
    refine aw_ret (v := some (.int _)) eX4_body_106 ⟨rfl, rfl⟩ (by omega) (by omega) rfl ?_
    refine ⟨?_, ?_, Same.rf⟩
    · rw [aBd, if_pos c_1]
    · rw [aBd, if_pos c_1]
      exact hV
  refine aw_lsw (v := 11) (off := 106) (tgt := 107) eX4_body_1 (by decide) (by decide) (by decide) (fun c_1 => ?_) (fun n_1_1 => ?_)
  · refine aw_aload_n (pc' := 108) eX4_body_107 rfl rfl trivial ?_
    refine aw_aload_n (pc' := 109) eX4_body_108 rfl rfl trivial ?_
    refine aw_Oget (pc' := 112) (ci := 4) (kf := 3) (N := 5) (.int (nI K)) (hV).1 eX4_body_109 rfl rfl rfl inX4 (by decide) q218 rfl ?_
    refine aw_iconst (pc' := 113) (v := 0) eX4_body_112 rfl (by decide) ?_
    refine aw_iload_n (pc' := 114) eX4_body_113 rfl rfl ?_
    refine aw_iload_n (pc' := 115) eX4_body_114 rfl rfl ?_
    refine aw_callv (pc' := 118) (nn := 4) (ih (d - 1) D K 0 x s _ hD (by omega) (by omega) (by first | omega | (have := aRun_le (K := K) (v := v) (i := i) f 3 1 x s; omega)) hV (by omega)) eX4_body_115 rfl ⟨q723, q726, q60⟩ q725 q19 ⟨rfl, by decide +kernel, by decide +kernel, by decide +kernel⟩ rfl (hV).ob rfl ⟨by omega, by decide⟩ ⟨by omega, by omega⟩ rfl (Nat.le_of_ble_eq_true rfl) (fun v3 h4 hq5 => ?_)
    obtain ⟨rfl, hV1, hs2⟩ := hq5
    dsimp only [Option.toList, List.cons_append, List.nil_append]
    refine aw_aload_n (pc' := 119) eX4_body_118 rfl rfl trivial ?_
    refine aw_Oget (pc' := 122) (ci := 4) (kf := 4) (N := 5) (.int v) (hV1).1 eX4_body_119 rfl rfl rfl inX4 (by decide) q219 rfl ?_
    refine aw_isub (pc' := 123) eX4_body_122 rfl ?_
    refine aw_ret (v := some (.int _)) eX4_body_123 ⟨rfl, rfl⟩ (by omega) (by omega) rfl ?_
    refine ⟨?_, ?_, hs2⟩
    · rw [aBd, if_neg n_1_0, if_pos c_1]
    · rw [aBd, if_neg n_1_0, if_pos c_1]
      exact hV1
  refine aw_lsw (v := 12) (off := 123) (tgt := 124) eX4_body_1 (by decide) (by decide) (by decide) (fun c_1 => ?_) (fun n_1_2 => ?_)
  · refine aw_aload_n (pc' := 125) eX4_body_124 rfl rfl trivial ?_
    refine aw_aload_n (pc' := 126) eX4_body_125 rfl rfl trivial ?_
    refine aw_Oget (pc' := 129) (ci := 4) (kf := 3) (N := 5) (.int (nI K)) (hV).1 eX4_body_126 rfl rfl rfl inX4 (by decide) q218 rfl ?_
    refine aw_iconst (pc' := 130) (v := 1) eX4_body_129 rfl (by decide) ?_
    refine aw_iload_n (pc' := 131) eX4_body_130 rfl rfl ?_
    refine aw_iload_n (pc' := 132) eX4_body_131 rfl rfl ?_
    refine aw_callv (pc' := 135) (nn := 4) (ih (d - 1) D K 1 x s _ hD (by omega) (by omega) (by first | omega | (have := aRun_le (K := K) (v := v) (i := i) f 3 1 x s; omega)) hV (by omega)) eX4_body_132 rfl ⟨q723, q726, q60⟩ q725 q19 ⟨rfl, by decide +kernel, by decide +kernel, by decide +kernel⟩ rfl (hV).ob rfl ⟨by omega, by decide⟩ ⟨by omega, by omega⟩ rfl (Nat.le_of_ble_eq_true rfl) (fun v8 h9 hq10 => ?_)
    obtain ⟨rfl, hV6, hs7⟩ := hq10
    dsimp only [Option.toList, List.cons_append, List.nil_append]
    refine aw_iconst (pc' := 136) (v := 2) eX4_body_135 rfl (by decide) ?_
    refine aw_imul (pc' := 137) eX4_body_136 rfl ?_
    refine aw_ret (v := some (.int _)) eX4_body_137 ⟨rfl, rfl⟩ (by omega) (by omega) rfl ?_
    refine ⟨?_, ?_, hs7⟩
    · rw [aBd, if_neg n_1_0, if_neg n_1_1, if_pos c_1]
    · rw [aBd, if_neg n_1_0, if_neg n_1_1, if_pos c_1]
      exact hV6
  refine aw_lsw (v := 20) (off := 137) (tgt := 138) eX4_body_1 (by decide) (by decide) (by decide) (fun c_1 => ?_) (fun n_1_3 => ?_)
  · refine aw_aload_n (pc' := 139) eX4_body_138 rfl rfl trivial ?_
    refine aw_iconst (pc' := 140) (v := 0) eX4_body_139 rfl (by decide) ?_
    refine aw_iconst (pc' := 141) (v := 1) eX4_body_140 rfl (by decide) ?_
    refine aw_iload_n (pc' := 142) eX4_body_141 rfl rfl ?_
    refine aw_iload_n (pc' := 143) eX4_body_142 rfl rfl ?_
    refine aw_callv (pc' := 146) (nn := 4) (ih (d - 1) D 0 1 x s _ hD (by omega) (by omega) (by first | omega | (have := aRun_le (K := K) (v := v) (i := i) f 3 1 x s; omega)) hV (by omega)) eX4_body_143 rfl ⟨q723, q726, q60⟩ q725 q19 ⟨rfl, by decide +kernel, by decide +kernel, by decide +kernel⟩ rfl (hV).ob rfl ⟨by omega, by decide⟩ ⟨by omega, by omega⟩ rfl (Nat.le_of_ble_eq_true rfl) (fun v13 h14 hq15 => ?_)
    obtain ⟨rfl, hV11, hs12⟩ := hq15
    dsimp only [Option.toList, List.cons_append, List.nil_append]
    refine aw_bipush (pc' := 148) (v := 6) eX4_body_146 rfl (by decide) ?_
    refine aw_ixor (pc' := 149) eX4_body_148 rfl ?_
    refine aw_ret (v := some (.int _)) eX4_body_149 ⟨rfl, rfl⟩ (by omega) (by omega) rfl ?_
    refine ⟨?_, ?_, hs12⟩
    · rw [aBd, if_neg n_1_0, if_neg n_1_1, if_neg n_1_2, if_pos c_1]
    · rw [aBd, if_neg n_1_0, if_neg n_1_1, if_neg n_1_2, if_pos c_1]
      exact hV11
  refine aw_lsw (v := 30) (off := 149) (tgt := 150) eX4_body_1 (by decide) (by decide) (by decide) (fun c_1 => ?_) (fun n_1_4 => ?_)
  · refine aw_aload_n (pc' := 151) eX4_body_150 rfl rfl trivial ?_
    refine aw_iconst (pc' := 152) (v := 0) eX4_body_151 rfl (by decide) ?_
    refine aw_iconst (pc' := 153) (v := 0) eX4_body_152 rfl (by decide) ?_
    refine aw_iload_n (pc' := 154) eX4_body_153 rfl rfl ?_
    refine aw_iconst (pc' := 155) (v := 3) eX4_body_154 rfl (by decide) ?_
    refine aw_imul (pc' := 156) eX4_body_155 rfl ?_
    refine aw_iload_n (pc' := 157) eX4_body_156 rfl rfl ?_
    refine aw_callv (pc' := 160) (nn := 4) (ih (d - 1) D 0 0 (x * 3) s _ hD (by omega) (by omega) (by first | omega | (have := aRun_le (K := K) (v := v) (i := i) f 3 1 x s; omega)) hV (by omega)) eX4_body_157 rfl ⟨q723, q726, q60⟩ q725 q19 ⟨rfl, by decide +kernel, by decide +kernel, by decide +kernel⟩ rfl (hV).ob rfl ⟨by omega, by decide⟩ ⟨by omega, by omega⟩ rfl (Nat.le_of_ble_eq_true rfl) (fun v18 h19 hq20 => ?_)
    obtain ⟨rfl, hV16, hs17⟩ := hq20
    dsimp only [Option.toList, List.cons_append, List.nil_append]
    refine aw_ret (v := some (.int _)) eX4_body_160 ⟨rfl, rfl⟩ (by omega) (by omega) rfl ?_
    refine ⟨?_, ?_, hs17⟩
    · rw [aBd, if_neg n_1_0, if_neg n_1_1, if_neg n_1_2, if_neg n_1_3, if_pos c_1]
    · rw [aBd, if_neg n_1_0, if_neg n_1_1, if_neg n_1_2, if_neg n_1_3, if_pos c_1]
      exact hV16
  refine aw_lsw (v := 40) (off := 160) (tgt := 161) eX4_body_1 (by decide) (by decide) (by decide) (fun c_1 => ?_) (fun n_1_5 => ?_)
  · refine aw_aload_n (pc' := 162) eX4_body_161 rfl rfl trivial ?_
    refine aw_iconst (pc' := 163) (v := 0) eX4_body_162 rfl (by decide) ?_
    refine aw_iconst (pc' := 164) (v := 2) eX4_body_163 rfl (by decide) ?_
    refine aw_iload_n (pc' := 165) eX4_body_164 rfl rfl ?_
    refine aw_iload_n (pc' := 166) eX4_body_165 rfl rfl ?_
    refine aw_callv (pc' := 169) (nn := 4) (ih (d - 1) D 0 2 x s _ hD (by omega) (by omega) (by first | omega | (have := aRun_le (K := K) (v := v) (i := i) f 3 1 x s; omega)) hV (by omega)) eX4_body_166 rfl ⟨q723, q726, q60⟩ q725 q19 ⟨rfl, by decide +kernel, by decide +kernel, by decide +kernel⟩ rfl (hV).ob rfl ⟨by omega, by decide⟩ ⟨by omega, by omega⟩ rfl (Nat.le_of_ble_eq_true rfl) (fun v23 h24 hq25 => ?_)
    obtain ⟨rfl, hV21, hs22⟩ := hq25
    dsimp only [Option.toList, List.cons_append, List.nil_append]
    refine aw_aload_n (pc' := 170) eX4_body_169 rfl rfl trivial ?_
    refine aw_aload_n (pc' := 171) eX4_body_170 rfl rfl trivial ?_
    refine aw_Oget (pc' := 174) (ci := 4) (kf := 3) (N := 5) (.int (nI K)) (hV21).1 eX4_body_171 rfl rfl rfl inX4 (by decide) q218 rfl ?_
    refine aw_iconst (pc' := 175) (v := 1) eX4_body_174 rfl (by decide) ?_
    refine aw_iconst (pc' := 176) (v := 1) eX4_body_175 rfl (by decide) ?_
    refine aw_iload_n (pc' := 177) eX4_body_176 rfl rfl ?_
    refine aw_callv (pc' := 180) (nn := 4) (ih (d - 1) D K 1 1 (aRun K v i f 0 2 x s).2 _ hD (by omega) (by omega) (by first | omega | (have := aRun_le (K := K) (v := v) (i := i) f 0 2 x s; omega)) hV21 (by omega)) eX4_body_177 rfl ⟨q723, q726, q60⟩ q725 q19 ⟨rfl, by decide +kernel, by decide +kernel, by decide +kernel⟩ rfl (hV21).ob rfl ⟨by omega, by decide⟩ ⟨by omega, by omega⟩ rfl (Nat.le_of_ble_eq_true rfl) (fun v28 h29 hq30 => ?_)
    obtain ⟨rfl, hV26, hs27⟩ := hq30
    have hT31 := hs22.tr hs27
    dsimp only [Option.toList, List.cons_append, List.nil_append]
    refine aw_iadd (pc' := 181) eX4_body_180 rfl ?_
    refine aw_ret (v := some (.int _)) eX4_body_181 ⟨rfl, rfl⟩ (by omega) (by omega) rfl ?_
    refine ⟨?_, ?_, hT31⟩
    · rw [aBd, if_neg n_1_0, if_neg n_1_1, if_neg n_1_2, if_neg n_1_3, if_neg n_1_4, if_pos c_1]
    · rw [aBd, if_neg n_1_0, if_neg n_1_1, if_neg n_1_2, if_neg n_1_3, if_neg n_1_4, if_pos c_1]
      exact hV26
  refine aw_lsw (v := 50) (off := 181) (tgt := 182) eX4_body_1 (by decide) (by decide) (by decide) (fun c_1 => ?_) (fun n_1_6 => ?_)
  · refine aw_aload_n (pc' := 183) eX4_body_182 rfl rfl trivial ?_
    refine aw_iconst (pc' := 184) (v := 1) eX4_body_183 rfl (by decide) ?_
    refine aw_iconst (pc' := 185) (v := 0) eX4_body_184 rfl (by decide) ?_
    refine aw_iload_n (pc' := 186) eX4_body_185 rfl rfl ?_
    refine aw_iload_n (pc' := 187) eX4_body_186 rfl rfl ?_
    refine aw_callv (pc' := 190) (nn := 4) (ih (d - 1) D 1 0 x s _ hD (by omega) (by omega) (by first | omega | (have := aRun_le (K := K) (v := v) (i := i) f 3 1 x s; omega)) hV (by omega)) eX4_body_187 rfl ⟨q723, q726, q60⟩ q725 q19 ⟨rfl, by decide +kernel, by decide +kernel, by decide +kernel⟩ rfl (hV).ob rfl ⟨by omega, by decide⟩ ⟨by omega, by omega⟩ rfl (Nat.le_of_ble_eq_true rfl) (fun v34 h35 hq36 => ?_)
    obtain ⟨rfl, hV32, hs33⟩ := hq36
    dsimp only [Option.toList, List.cons_append, List.nil_append]
    refine aw_ineg (pc' := 191) eX4_body_190 rfl ?_
    refine aw_ret (v := some (.int _)) eX4_body_191 ⟨rfl, rfl⟩ (by omega) (by omega) rfl ?_
    refine ⟨?_, ?_, hs33⟩
    · rw [aBd, if_neg n_1_0, if_neg n_1_1, if_neg n_1_2, if_neg n_1_3, if_neg n_1_4, if_neg n_1_5, if_pos c_1]
    · rw [aBd, if_neg n_1_0, if_neg n_1_1, if_neg n_1_2, if_neg n_1_3, if_neg n_1_4, if_neg n_1_5, if_pos c_1]
      exact hV32
  refine aw_lsw (v := 51) (off := 191) (tgt := 192) eX4_body_1 (by decide) (by decide) (by decide) (fun c_1 => ?_) (fun n_1_7 => ?_)
  · refine aw_aload_n (pc' := 193) eX4_body_192 rfl rfl trivial ?_
    refine aw_iconst (pc' := 194) (v := 1) eX4_body_193 rfl (by decide) ?_
    refine aw_iconst (pc' := 195) (v := 1) eX4_body_194 rfl (by decide) ?_
    refine aw_iload_n (pc' := 196) eX4_body_195 rfl rfl ?_
    refine aw_iconst (pc' := 197) (v := 1) eX4_body_196 rfl (by decide) ?_
    refine aw_iadd (pc' := 198) eX4_body_197 rfl ?_
    refine aw_iload_n (pc' := 199) eX4_body_198 rfl rfl ?_
    refine aw_callv (pc' := 202) (nn := 4) (ih (d - 1) D 1 1 (x + 1) s _ hD (by omega) (by omega) (by first | omega | (have := aRun_le (K := K) (v := v) (i := i) f 3 1 x s; omega)) hV (by omega)) eX4_body_199 rfl ⟨q723, q726, q60⟩ q725 q19 ⟨rfl, by decide +kernel, by decide +kernel, by decide +kernel⟩ rfl (hV).ob rfl ⟨by omega, by decide⟩ ⟨by omega, by omega⟩ rfl (Nat.le_of_ble_eq_true rfl) (fun v39 h40 hq41 => ?_)
    obtain ⟨rfl, hV37, hs38⟩ := hq41
    dsimp only [Option.toList, List.cons_append, List.nil_append]
    refine aw_ret (v := some (.int _)) eX4_body_202 ⟨rfl, rfl⟩ (by omega) (by omega) rfl ?_
    refine ⟨?_, ?_, hs38⟩
    · rw [aBd, if_neg n_1_0, if_neg n_1_1, if_neg n_1_2, if_neg n_1_3, if_neg n_1_4, if_neg n_1_5, if_neg n_1_6, if_pos c_1]
    · rw [aBd, if_neg n_1_0, if_neg n_1_1, if_neg n_1_2, if_neg n_1_3, if_neg n_1_4, if_neg n_1_5, if_neg n_1_6, if_pos c_1]
      exact hV37
  refine aw_lsw (v := 60) (off := 202) (tgt := 203) eX4_body_1 (by decide) (by decide) (by decide) (fun c_1 => ?_) (fun n_1_8 => ?_)
  · refine aw_aload_n (pc' := 204) eX4_body_203 rfl rfl trivial ?_
    refine aw_iconst (pc' := 205) (v := 2) eX4_body_204 rfl (by decide) ?_
    refine aw_iconst (pc' := 206) (v := 2) eX4_body_205 rfl (by decide) ?_
    refine aw_iload_n (pc' := 207) eX4_body_206 rfl rfl ?_
    refine aw_aload_n (pc' := 208) eX4_body_207 rfl rfl trivial ?_
    refine aw_Oget (pc' := 211) (ci := 4) (kf := 2) (N := 5) (.int i) (hV).1 eX4_body_208 rfl rfl rfl inX4 (by decide) q217 rfl ?_
    refine aw_isub (pc' := 212) eX4_body_211 rfl ?_
    refine aw_iload_n (pc' := 213) eX4_body_212 rfl rfl ?_
    refine aw_callv (pc' := 216) (nn := 4) (ih (d - 1) D 2 2 (x - i) s _ hD (by omega) (by omega) (by first | omega | (have := aRun_le (K := K) (v := v) (i := i) f 3 1 x s; omega)) hV (by omega)) eX4_body_213 rfl ⟨q723, q726, q60⟩ q725 q19 ⟨rfl, by decide +kernel, by decide +kernel, by decide +kernel⟩ rfl (hV).ob rfl ⟨by omega, by decide⟩ ⟨by omega, by omega⟩ rfl (Nat.le_of_ble_eq_true rfl) (fun v44 h45 hq46 => ?_)
    obtain ⟨rfl, hV42, hs43⟩ := hq46
    dsimp only [Option.toList, List.cons_append, List.nil_append]
    refine aw_ret (v := some (.int _)) eX4_body_216 ⟨rfl, rfl⟩ (by omega) (by omega) rfl ?_
    refine ⟨?_, ?_, hs43⟩
    · rw [aBd, if_neg n_1_0, if_neg n_1_1, if_neg n_1_2, if_neg n_1_3, if_neg n_1_4, if_neg n_1_5, if_neg n_1_6, if_neg n_1_7, if_pos c_1]
    · rw [aBd, if_neg n_1_0, if_neg n_1_1, if_neg n_1_2, if_neg n_1_3, if_neg n_1_4, if_neg n_1_5, if_neg n_1_6, if_neg n_1_7, if_pos c_1]
      exact hV42
  refine aw_lsw (v := 70) (off := 216) (tgt := 217) eX4_body_1 (by decide) (by decide) (by decide) (fun c_1 => ?_) (fun n_1_9 => ?_)
  · refine aw_aload_n (pc' := 218) eX4_body_217 rfl rfl trivial ?_
    refine aw_iconst (pc' := 219) (v := 3) eX4_body_218 rfl (by decide) ?_
    refine aw_iconst (pc' := 220) (v := 1) eX4_body_219 rfl (by decide) ?_
    refine aw_iload_n (pc' := 221) eX4_body_220 rfl rfl ?_
    refine aw_iload_n (pc' := 222) eX4_body_221 rfl rfl ?_
    refine aw_callv (pc' := 225) (nn := 4) (ih (d - 1) D 3 1 x s _ hD (by omega) (by omega) (by first | omega | (have := aRun_le (K := K) (v := v) (i := i) f 3 1 x s; omega)) hV (by omega)) eX4_body_222 rfl ⟨q723, q726, q60⟩ q725 q19 ⟨rfl, by decide +kernel, by decide +kernel, by decide +kernel⟩ rfl (hV).ob rfl ⟨by omega, by decide⟩ ⟨by omega, by omega⟩ rfl (Nat.le_of_ble_eq_true rfl) (fun v49 h50 hq51 => ?_)
    obtain ⟨rfl, hV47, hs48⟩ := hq51
    dsimp only [Option.toList, List.cons_append, List.nil_append]
    refine aw_aload_n (pc' := 226) eX4_body_225 rfl rfl trivial ?_
    refine aw_iconst (pc' := 227) (v := 3) eX4_body_226 rfl (by decide) ?_
    refine aw_iconst (pc' := 228) (v := 0) eX4_body_227 rfl (by decide) ?_
    refine aw_iconst (pc' := 229) (v := 2) eX4_body_228 rfl (by decide) ?_
    refine aw_iload_n (pc' := 230) eX4_body_229 rfl rfl ?_
    refine aw_callv (pc' := 233) (nn := 4) (ih (d - 1) D 3 0 2 (aRun K v i f 3 1 x s).2 _ hD (by omega) (by omega) (by first | omega | (have := aRun_le (K := K) (v := v) (i := i) f 3 1 x s; omega)) hV47 (by omega)) eX4_body_230 rfl ⟨q723, q726, q60⟩ q725 q19 ⟨rfl, by decide +kernel, by decide +kernel, by decide +kernel⟩ rfl (hV47).ob rfl ⟨by omega, by decide⟩ ⟨by omega, by omega⟩ rfl (Nat.le_of_ble_eq_true rfl) (fun v54 h55 hq56 => ?_)
    obtain ⟨rfl, hV52, hs53⟩ := hq56
    have hT57 := hs48.tr hs53
    dsimp only [Option.toList, List.cons_append, List.nil_append]
    refine aw_iadd (pc' := 234) eX4_body_233 rfl ?_
    refine aw_ret (v := some (.int _)) eX4_body_234 ⟨rfl, rfl⟩ (by omega) (by omega) rfl ?_
    refine ⟨?_, ?_, hT57⟩
    · rw [aBd, if_neg n_1_0, if_neg n_1_1, if_neg n_1_2, if_neg n_1_3, if_neg n_1_4, if_neg n_1_5, if_neg n_1_6, if_neg n_1_7, if_neg n_1_8, if_pos c_1]
    · rw [aBd, if_neg n_1_0, if_neg n_1_1, if_neg n_1_2, if_neg n_1_3, if_neg n_1_4, if_neg n_1_5, if_neg n_1_6, if_neg n_1_7, if_neg n_1_8, if_pos c_1]
      exact hV52
  refine aw_lsw (v := 71) (off := 234) (tgt := 235) eX4_body_1 (by decide) (by decide) (by decide) (fun c_1 => ?_) (fun n_1_10 => ?_)
  · refine aw_aload_n (pc' := 236) eX4_body_235 rfl rfl trivial ?_
    refine aw_iconst (pc' := 237) (v := 3) eX4_body_236 rfl (by decide) ?_
    refine aw_iconst (pc' := 238) (v := 0) eX4_body_237 rfl (by decide) ?_
    refine aw_iload_n (pc' := 239) eX4_body_238 rfl rfl ?_
    refine aw_iload_n (pc' := 240) eX4_body_239 rfl rfl ?_
    refine aw_callv (pc' := 243) (nn := 4) (ih (d - 1) D 3 0 x s _ hD (by omega) (by omega) (by first | omega | (have := aRun_le (K := K) (v := v) (i := i) f 3 1 x s; omega)) hV (by omega)) eX4_body_240 rfl ⟨q723, q726, q60⟩ q725 q19 ⟨rfl, by decide +kernel, by decide +kernel, by decide +kernel⟩ rfl (hV).ob rfl ⟨by omega, by decide⟩ ⟨by omega, by omega⟩ rfl (Nat.le_of_ble_eq_true rfl) (fun v60 h61 hq62 => ?_)
    obtain ⟨rfl, hV58, hs59⟩ := hq62
    dsimp only [Option.toList, List.cons_append, List.nil_append]
    refine aw_aload_n (pc' := 244) eX4_body_243 rfl rfl trivial ?_
    refine aw_Oget (pc' := 247) (ci := 4) (kf := 4) (N := 5) (.int v) (hV58).1 eX4_body_244 rfl rfl rfl inX4 (by decide) q219 rfl ?_
    refine aw_ixor (pc' := 248) eX4_body_247 rfl ?_
    refine aw_ret (v := some (.int _)) eX4_body_248 ⟨rfl, rfl⟩ (by omega) (by omega) rfl ?_
    refine ⟨?_, ?_, hs59⟩
    · rw [aBd, if_neg n_1_0, if_neg n_1_1, if_neg n_1_2, if_neg n_1_3, if_neg n_1_4, if_neg n_1_5, if_neg n_1_6, if_neg n_1_7, if_neg n_1_8, if_neg n_1_9]
    · rw [aBd, if_neg n_1_0, if_neg n_1_1, if_neg n_1_2, if_neg n_1_3, if_neg n_1_4, if_neg n_1_5, if_neg n_1_6, if_neg n_1_7, if_neg n_1_8, if_neg n_1_9]
      exact hV58
  refine aw_lswo (off := 248) (tgt := 249) eX4_body_1 (by decide) ((lv_osw n_1_0 (by decide)).trans ((lv_osw n_1_1 (by decide)).trans ((lv_osw n_1_2 (by decide)).trans ((lv_osw n_1_3 (by decide)).trans ((lv_osw n_1_4 (by decide)).trans ((lv_osw n_1_5 (by decide)).trans ((lv_osw n_1_6 (by decide)).trans ((lv_osw n_1_7 (by decide)).trans ((lv_osw n_1_8 (by decide)).trans ((lv_osw n_1_9 (by decide)).trans ((lv_osw n_1_10 (by decide)).trans (rfl)))))))))))) (by decide) ?_
  refine aw_iconst (pc' := 250) (v := 0) eX4_body_249 rfl (by decide) ?_
  refine aw_ret (v := some (.int _)) eX4_body_250 ⟨rfl, rfl⟩ (by omega) (by omega) rfl ?_
  exfalso
  rcases tb_all b (List.mem_range.mpr hb) with z | z | z | z | z | z | z | z | z | z | z
  · exact n_1_0 z
  · exact n_1_1 z
  · exact n_1_2 z
  · exact n_1_3 z
  · exact n_1_4 z
  · exact n_1_5 z
  · exact n_1_6 z
  · exact n_1_7 z
  · exact n_1_8 z
  · exact n_1_9 z
  · exact n_1_10 z
theorem zero_VC {e K : Nat} {v i : Int32} : VC l G e K v i 0 := by
  intro d D k a x s h hD hk ha hs hV hd
  refine ct_of (lv := [some (.ref e), some (.int (nI k)), some (.int (nI a)), some (.int x), some (.int (nI D)), none]) (by decide +kernel) rfl (fun z => by cases z) (fun _ => rfl) (fun _ => Nat.le_of_ble_eq_true rfl) ?_
  refine aw_iload_n (pc' := 1) eX4_from_0 rfl rfl ?_
  refine aw_iconst (pc' := 2) (v := 3) eX4_from_1 rfl (by decide) ?_
  refine aw_imul (pc' := 3) eX4_from_2 rfl ?_
  refine aw_iload_n (pc' := 4) eX4_from_3 rfl rfl ?_
  refine aw_iadd (pc' := 5) eX4_from_4 rfl ?_
  rw [ixk3 hk ha]
  refine aw_istore (pc' := 7) eX4_from_5 rfl (by decide) ?_
  dsimp only [zst, zst2, zcut]
  refine aw_iload (pc' := 9) eX4_from_7 rfl rfl ?_
  refine aw_bipush (pc' := 11) (v := 20) eX4_from_9 rfl (by decide) ?_
  refine aw_icmp_gt (pc' := 14) (tgt := 28) eX4_from_11 rfl (by decide) (fun c_11 => ?_) (fun c_11 => ?_)
  · refine aw_iconst (pc' := 29) (v := 0) eX4_from_28 rfl (by decide) ?_
    refine aw_ret (v := some (.int _)) eX4_from_29 ⟨rfl, rfl⟩ (by omega) (by omega) rfl ?_
    exact ⟨rfl, hV, Same.rf⟩
  · exact absurd (show nI D > 20 from (nI_ltI (a := 20) (by omega) (by omega)).mpr (by omega)) c_11
theorem step_VC {e K f : Nat} {v i : Int32} (hK : K < 7) (ih : VC l G e K v i f) : VC l G e K v i (f + 1) := by
  intro d D k a x s h hD hk ha hs hV hd
  rw [pw] at hs
  have hpp := pw_pos f
  refine ct_of (lv := [some (.ref e), some (.int (nI k)), some (.int (nI a)), some (.int x), some (.int (nI D)), none]) (by decide +kernel) rfl (fun z => by cases z) (fun _ => rfl) (fun _ => Nat.le_of_ble_eq_true rfl) ?_
  refine aw_iload_n (pc' := 1) eX4_from_0 rfl rfl ?_
  refine aw_iconst (pc' := 2) (v := 3) eX4_from_1 rfl (by decide) ?_
  refine aw_imul (pc' := 3) eX4_from_2 rfl ?_
  refine aw_iload_n (pc' := 4) eX4_from_3 rfl rfl ?_
  refine aw_iadd (pc' := 5) eX4_from_4 rfl ?_
  rw [ixk3 hk ha]
  refine aw_istore (pc' := 7) eX4_from_5 rfl (by decide) ?_
  dsimp only [zst, zst2, zcut]
  refine aw_iload (pc' := 9) eX4_from_7 rfl rfl ?_
  refine aw_bipush (pc' := 11) (v := 20) eX4_from_9 rfl (by decide) ?_
  refine aw_icmp_gt (pc' := 14) (tgt := 28) eX4_from_11 rfl (by decide) (fun c_11 => ?_) (fun c_11 => ?_)
  · exact absurd (nI_gt (b := 20) (by omega) (by omega) c_11) (by omega)
  · refine aw_iload (pc' := 16) eX4_from_14 rfl rfl ?_
    refine aw_if_lt (pc' := 19) (tgt := 28) eX4_from_16 rfl (by decide) (fun c_16 => ?_) (fun c_16 => ?_)
    · exact absurd c_16 (by rw [Int32.lt_iff_toInt_lt, nI_toInt (by omega), show (0 : Int32).toInt = 0 from by decide]; omega)
    · refine aw_iload (pc' := 21) eX4_from_19 rfl rfl ?_
      refine aw_gets (pc' := 24) (a := 2) eX4_from_21 rfl (by decide) q727 ?_
      refine aw_Ln2 (pc' := 25) eX4_from_24 rfl ?_
      refine aw_icmp_lt (pc' := 28) (tgt := 30) eX4_from_25 rfl (by decide) (fun c_25 => ?_) (fun c_25 => ?_)
      · refine aw_aload_n (pc' := 31) eX4_from_30 rfl rfl trivial ?_
        refine aw_Oget (pc' := 34) (ci := 4) (kf := 1) (N := 5) (.int (nI s.2)) hV.1 eX4_from_31 rfl rfl rfl inX4 (by decide) q215 rfl ?_
        refine aw_aload_n (pc' := 35) eX4_from_34 rfl rfl trivial ?_
        refine aw_Oget (pc' := 38) (ci := 4) (kf := 0) (N := 5) (.ref (e + 1)) hV.1 eX4_from_35 rfl rfl rfl inX4 (by decide) q213 rfl ?_
        refine aw_Alen (pc' := 39) hV.2 eX4_from_38 rfl (by decide) ?_
        refine aw_icmp_ge (pc' := 42) (tgt := 57) eX4_from_39 rfl (by decide) (fun c_39 => ?_) (fun c_39 => ?_)
        · refine aw_aload_n (pc' := 58) eX4_from_57 rfl rfl trivial ?_
          refine aw_dup (pc' := 59) eX4_from_58 rfl rfl ?_
          refine aw_Oget (pc' := 62) (ci := 4) (kf := 1) (N := 5) (.int (nI s.2)) hV.1 eX4_from_59 rfl rfl rfl inX4 (by decide) q215 rfl ?_
          refine aw_iconst (pc' := 63) (v := 1) eX4_from_62 rfl (by decide) ?_
          refine aw_iadd (pc' := 64) eX4_from_63 rfl ?_
          refine aw_Oput (pc' := 67) (ci := 4) (kf := 1) (N := 5) (ty0 := tyX4) [.ref (e + 1), .int (nI s.2 + 1), .int i, .int (nI K), .int v] hV.1 eX4_from_64 rfl rfl rfl inX4 tyX4_ok nmX4 (by decide) q215 rfl (by first | trivial | exact Or.inl rfl | exact Or.inr rfl | (simp [zfit]; done)) rfl (fun h3 hO1 hs2 => ?_)
          have hz4 := hs2.w (w2 := e) (n2 := 2) (by omega) (by omega)
          have hF5 := hV.2.fr hs2 (by omega)
          have hP := VAt.pu (s := s) (b := tabB (3 * k + a)) hO1 (by rw [if_neg (show ¬ s.2 < 20 by have := ge_nI (a := s.2) (b := 20) (by omega) (by omega) c_39; omega)]; exact hF5)
          refine aw_aload_n (pc' := 68) eX4_from_67 rfl rfl trivial ?_
          refine aw_gets (pc' := 71) (a := 2) eX4_from_68 rfl (by decide) q727 ?_
          refine aw_iload (pc' := 73) eX4_from_71 rfl rfl ?_
          refine aw_L2 (pc' := 74) (j := (3 * k + a)) eX4_from_73 rfl (by omega) rfl ?_
          refine aw_iload_n (pc' := 75) eX4_from_74 rfl rfl ?_
          refine aw_iload (pc' := 77) eX4_from_75 rfl rfl ?_
          refine aw_iconst (pc' := 78) (v := 1) eX4_from_77 rfl (by decide) ?_
          refine aw_iadd (pc' := 79) eX4_from_78 rfl ?_
          rw [show nI D + 1 = nI (D + 1) from nI_1 D]
          refine aw_callv (pc' := 82) (nn := 3) (c_X4_body (d := d - 1) (f := f) (D := D + 1) (b := 3 * k + a) (s := tPush (tabB (3 * k + a)) s) ih (by omega) (by omega) hK (by show s.2 + 1 + 2 * pw f ≤ _; omega) hP (by omega)) eX4_from_79 rfl ⟨q729, q732, q60⟩ q731 q20 ⟨rfl, by decide +kernel, by decide +kernel, by decide +kernel⟩ rfl hP.ob rfl ⟨by omega, by decide⟩ ⟨by omega, by omega⟩ rfl (Nat.le_of_ble_eq_true rfl) (fun v8 h9 hq10 => ?_)
          obtain ⟨rfl, hV6, hs7⟩ := hq10
          have hT9 := (hz4).tr hs7
          dsimp only [Option.toList, List.cons_append, List.nil_append]
          refine aw_ret (v := some (.int _)) eX4_from_82 ⟨rfl, rfl⟩ (by omega) (by omega) rfl ?_
          exact ⟨by rw [aRun_s], by rw [aRun_s]; exact hV6, hT9⟩
        · have c9 := nge_nI (a := s.2) (b := 20) (by omega) (by omega) c_39
          refine aw_aload_n (pc' := 43) eX4_from_42 rfl rfl trivial ?_
          refine aw_Oget (pc' := 46) (ci := 4) (kf := 0) (N := 5) (.ref (e + 1)) hV.1 eX4_from_43 rfl rfl rfl inX4 (by decide) q213 rfl ?_
          refine aw_aload_n (pc' := 47) eX4_from_46 rfl rfl trivial ?_
          refine aw_Oget (pc' := 50) (ci := 4) (kf := 1) (N := 5) (.int (nI s.2)) hV.1 eX4_from_47 rfl rfl rfl inX4 (by decide) q215 rfl ?_
          refine aw_gets (pc' := 53) (a := 2) eX4_from_50 rfl (by decide) q727 ?_
          refine aw_iload (pc' := 55) eX4_from_53 rfl rfl ?_
          refine aw_L2 (pc' := 56) (j := (3 * k + a)) eX4_from_55 rfl (by omega) rfl ?_
          refine aw_Ais (pc' := 57) s.2 hV.2 eX4_from_56 rfl (show vp_in _ 20 from vp_in_nI c9 (by omega)) (nI_clamp (by omega)) (fun h13 hA11 hs12 => ?_)
          have hz14 := hs12.w (w2 := e) (n2 := 2) (by omega) (by omega)
          have hF15 := hV.1.fr hs12 (by omega)
          refine aw_aload_n (pc' := 58) eX4_from_57 rfl rfl trivial ?_
          refine aw_dup (pc' := 59) eX4_from_58 rfl rfl ?_
          refine aw_Oget (pc' := 62) (ci := 4) (kf := 1) (N := 5) (.int (nI s.2)) hF15 eX4_from_59 rfl rfl rfl inX4 (by decide) q215 rfl ?_
          refine aw_iconst (pc' := 63) (v := 1) eX4_from_62 rfl (by decide) ?_
          refine aw_iadd (pc' := 64) eX4_from_63 rfl ?_
          refine aw_Oput (pc' := 67) (ci := 4) (kf := 1) (N := 5) (ty0 := tyX4) [.ref (e + 1), .int (nI s.2 + 1), .int i, .int (nI K), .int v] hF15 eX4_from_64 rfl rfl rfl inX4 tyX4_ok nmX4 (by decide) q215 rfl (by first | trivial | exact Or.inl rfl | exact Or.inr rfl | (simp [zfit]; done)) rfl (fun h18 hO16 hs17 => ?_)
          have hz19 := hs17.w (w2 := e) (n2 := 2) (by omega) (by omega)
          have hT20 := hz14.tr hz19
          have hF21 := hA11.fr hs17 (by omega)
          have hP := VAt.pu (s := s) (b := tabB (3 * k + a)) hO16 (by rw [if_pos (show s.2 < 20 by have := nge_nI (a := s.2) (b := 20) (by omega) (by omega) c_39; omega)]; exact hF21)
          refine aw_aload_n (pc' := 68) eX4_from_67 rfl rfl trivial ?_
          refine aw_gets (pc' := 71) (a := 2) eX4_from_68 rfl (by decide) q727 ?_
          refine aw_iload (pc' := 73) eX4_from_71 rfl rfl ?_
          refine aw_L2 (pc' := 74) (j := (3 * k + a)) eX4_from_73 rfl (by omega) rfl ?_
          refine aw_iload_n (pc' := 75) eX4_from_74 rfl rfl ?_
          refine aw_iload (pc' := 77) eX4_from_75 rfl rfl ?_
          refine aw_iconst (pc' := 78) (v := 1) eX4_from_77 rfl (by decide) ?_
          refine aw_iadd (pc' := 79) eX4_from_78 rfl ?_
          rw [show nI D + 1 = nI (D + 1) from nI_1 D]
          refine aw_callv (pc' := 82) (nn := 3) (c_X4_body (d := d - 1) (f := f) (D := D + 1) (b := 3 * k + a) (s := tPush (tabB (3 * k + a)) s) ih (by omega) (by omega) hK (by show s.2 + 1 + 2 * pw f ≤ _; omega) hP (by omega)) eX4_from_79 rfl ⟨q729, q732, q60⟩ q731 q20 ⟨rfl, by decide +kernel, by decide +kernel, by decide +kernel⟩ rfl hP.ob rfl ⟨by omega, by decide⟩ ⟨by omega, by omega⟩ rfl (Nat.le_of_ble_eq_true rfl) (fun v24 h25 hq26 => ?_)
          obtain ⟨rfl, hV22, hs23⟩ := hq26
          have hT9 := (hT20).tr hs23
          dsimp only [Option.toList, List.cons_append, List.nil_append]
          refine aw_ret (v := some (.int _)) eX4_from_82 ⟨rfl, rfl⟩ (by omega) (by omega) rfl ?_
          exact ⟨by rw [aRun_s], by rw [aRun_s]; exact hV22, hT9⟩
      · exact absurd ((nI_ltI (by omega) (by omega)).mpr (show 3 * k + a < 21 by omega)) c_25
theorem all_VC {e K : Nat} {v i : Int32} (hK : K < 7) : ∀ f, VC l G e K v i f
  | 0 => zero_VC
  | f + 1 => step_VC hK (all_VC hK f)
abbrev mX4_does : MT := (RX4, cX4_does, 3, (some .int), false)
theorem eX4_does_0 : decode mX4_does.2.1 0 = .ok (.aload_n 0, 1) := by decide +kernel
theorem eX4_does_1 : decode mX4_does.2.1 1 = .ok (.aload_n 0, 1) := by decide +kernel
theorem eX4_does_2 : decode mX4_does.2.1 2 = .ok (.getfield 22, 3) := by decide +kernel
theorem eX4_does_5 : decode mX4_does.2.1 5 = .ok (.iload_n 1, 1) := by decide +kernel
theorem eX4_does_6 : decode mX4_does.2.1 6 = .ok (.iload_n 2, 1) := by decide +kernel
theorem eX4_does_7 : decode mX4_does.2.1 7 = .ok (.iconst 0, 1) := by decide +kernel
theorem eX4_does_8 : decode mX4_does.2.1 8 = .ok (.invokevirtual 31, 3) := by decide +kernel
theorem eX4_does_11 : decode mX4_does.2.1 11 = .ok (.ireturn, 1) := by decide +kernel
theorem c_X4_does {e K a : Nat} {v i x : Int32} {s : TS} (hK : K < 7) (ha : a < 3) (hs : s.2 ≤ 1000) (hV : VAt h e i (nI K) v s) (hd : 44 ≤ d) : Ct l G mX4_does yX4_does d 0 0 [.ref e, .int (nI a), .int x] h (fun r h' => r = some (.int (aRun K v i 21 K a x s).1) ∧ VAt h' e i (nI K) v (aRun K v i 21 K a x s).2 ∧ Same e 2 h h') := by
  refine ct_of (lv := [some (.ref e), some (.int (nI a)), some (.int x)]) (by decide +kernel) rfl (fun z => by cases z) (fun _ => rfl) (fun _ => Nat.le_of_ble_eq_true rfl) ?_
  refine aw_aload_n (pc' := 1) eX4_does_0 rfl rfl trivial ?_
  refine aw_aload_n (pc' := 2) eX4_does_1 rfl rfl trivial ?_
  refine aw_Oget (pc' := 5) (ci := 4) (kf := 3) (N := 5) (.int (nI K)) (hV).1 eX4_does_2 rfl rfl rfl inX4 (by decide) q218 rfl ?_
  refine aw_iload_n (pc' := 6) eX4_does_5 rfl rfl ?_
  refine aw_iload_n (pc' := 7) eX4_does_6 rfl rfl ?_
  refine aw_iconst (pc' := 8) (v := 0) eX4_does_7 rfl (by decide) ?_
  refine aw_callv (pc' := 11) (nn := 4) (all_VC hK 21 (d - 1) 0 K a x s _ rfl hK ha (by rw [pw_21]; omega) hV (by omega)) eX4_does_8 rfl ⟨q723, q726, q60⟩ q725 q19 ⟨rfl, by decide +kernel, by decide +kernel, by decide +kernel⟩ rfl hV.ob rfl ⟨by omega, by decide⟩ ⟨by omega, by omega⟩ rfl (Nat.le_of_ble_eq_true rfl) (fun v3 h4 hq5 => ?_)
  obtain ⟨rfl, hV1, hs2⟩ := hq5
  dsimp only [Option.toList, List.cons_append, List.nil_append]
  refine aw_ret (v := some (.int _)) eX4_does_11 ⟨rfl, rfl⟩ (by omega) (by omega) rfl ?_
  exact ⟨rfl, hV1, hs2⟩
end C7
