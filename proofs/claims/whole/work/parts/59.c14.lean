/-! the class AmberGrains: the trial -/
section C14
variable {F : FT} {l : Launch} {G : GT} {d m t : Nat} {g : Nat → Int32} {h : Hp} {Q : Option Value → Hp → Prop} {bi se : Int32}
def afs (b s : Int32) : List Value := [.ref 17, .ref 27, .ref 37, .int b, .ref 47, .ref 49, .ref 51, .ref 53, .ref 55, .ref 57, .ref 59, .int s, .ref 62, .ref 63]
theorem sCome_or {F : FT} {m : Nat} {st : Int32} {i : Nat} : ∀ (k n t : Nat) (g : Nat → Int32), sCome F m st i k n t g = -5 ∨ ∃ q, n ≤ q ∧ q < n + k ∧ sCome F m st i k n t g = nI q
  | 0, _, _, _ => Or.inl rfl
  | k + 1, n, t, g => by
    rw [sCome]
    split
    · exact Or.inr ⟨n, Nat.le_refl _, by omega, rfl⟩
    · rcases sCome_or k (n + 1) (t + 1) (sDay F m t g) with e | ⟨q, h1, h2, h3⟩
      · exact Or.inl e
      · exact Or.inr ⟨q, by omega, by omega, h3⟩
def lst (x : Int32) : Int32 := if x = 1000 then 61 else x
def DLs : List Int32 := (-5) :: (List.range 61).map nI
def BLs : List Int32 := 1000 :: (List.range 61).map nI
theorem st_b : ∀ D ∈ DLs, ∀ b ∈ BLs, (if b < sLate D then b else sLate D) ∈ BLs ∧ ((¬ D = -5 ∧ D < lst b) → sLate D < b ∧ lst (if b < sLate D then b else sLate D) = D) ∧ (¬ (¬ D = -5 ∧ D < lst b) → ¬ sLate D < b ∧ lst (if b < sLate D then b else sLate D) = lst b) := by decide +kernel
theorem st_0 : ∀ D ∈ DLs, sLate D ∈ BLs ∧ (if D = -5 then 61 else D) = lst (sLate D) := by decide +kernel
theorem sCome_D {F : FT} {m : Nat} {st : Int32} {i t : Nat} {g : Nat → Int32} : sCome F m st i 61 0 t g ∈ DLs := by
  rcases sCome_or (F := F) (m := m) (st := st) (i := i) 61 0 t g with e | ⟨q, h1, h2, h3⟩
  · rw [e]; exact List.mem_cons_self
  · rw [h3]; exact List.mem_cons_of_mem _ (List.mem_map_of_mem (List.mem_range.mpr (by omega)))
theorem sBlow_B {F : FT} {g : Nat → Int32} {m t i : Nat} : ∀ c, (sBlow F g m t i c).2 ∈ BLs
  | 0 => List.mem_cons_self
  | c + 1 => (st_b _ sCome_D _ (sBlow_B c)).1
theorem sNews_B {F : FT} {g : Nat → Int32} {m t i : Nat} : ∀ c, (sNews F g m t i c).2 ∈ BLs
  | 0 => (st_0 _ sCome_D).1
  | c + 1 => by
    rw [sNews]
    split
    · exact (st_b _ sCome_D _ (sNews_B c)).1
    · exact sNews_B c
theorem WF.fill {w : Nat} {o x : Int32} (hW : WF F h w g o) : ∃ f, OA h (w + 8) (.inl (0, (4, .inl f))) ∧ ∀ h' f', (∀ i, i < 4 → f' i = x) → OA h' (w + 8) (.inl (0, (4, .inl f'))) → Same (w + 8) 1 h h' → WF F h' w (sCur g x) o ∧ Same w 10 h h' := by
  obtain ⟨h1, L, v, sd, hG, hS, hF⟩ := hW
  obtain ⟨f, e1, e2⟩ := hG.2.2.1 8 (by omega) (by omega)
  refine ⟨f, ⟨e1, by have := hG.1; omega⟩, fun h' f' hf hO hs => ?_⟩
  have hs2 : Same w 10 h h' := hs.w (by omega) (by omega)
  refine ⟨⟨h1, L, v, sd, ?_, hS.fr hs2 h1, by rw [sCur_ne (by omega)]; exact hF⟩, hs2⟩
  refine WAt.ex3 (WAt.cp hG (by omega) hs hO (fun i hi => hf i hi)) ?_ hG.2.2.2 (fun k h1 h9 i hi => ?_)
  · rfl
  · rcases (by omega : k = 1 ∨ k = 2 ∨ k = 3 ∨ k = 4 ∨ k = 5 ∨ k = 6 ∨ k = 7 ∨ k = 8 ∨ k = 9) with rfl | rfl | rfl | rfl | rfl | rfl | rfl | rfl | rfl
    · have hi : i < 6 := hi
      exact (sCur_ne (j := 10 * i + 0) (by omega)).symm
    · have hi : i < 6 := hi
      exact (sCur_ne (j := 10 * i + 1) (by omega)).symm
    · have hi : i < 6 := hi
      exact (sCur_ne (j := 10 * i + 2) (by omega)).symm
    · have hi : i < 6 := hi
      exact (sCur_ne (j := 10 * i + 3) (by omega)).symm
    · have hi : i < 6 := hi
      exact (sCur_ne (j := 10 * i + 4) (by omega)).symm
    · have hi : i < 6 := hi
      exact (sCur_ne (j := 10 * i + 5) (by omega)).symm
    · have hi : i < 24 := hi
      exact (sCur_ne (j := 10 * (i / 4) + (6 + i % 4)) (by omega)).symm
    · have hi : i < 4 := hi
      show x = sCur g x (63 + i)
      rw [sCur, if_pos (by omega)]
    · rfl
theorem sSays_hi2 {g : Nat → Int32} {i j : Nat} (hi : i < 6) (hj : 60 ≤ j) : sSays g i j = g j := by
  unfold sSays
  split
  · rw [upd_ne (by omega), upd_ne (by omega)]
  · rfl
theorem gAge.says {g : Nat → Int32} {i : Nat} (hA : gAge g m t) : gAge (sSays g i) m t := fun j hj => by
  unfold sSays
  split
  · by_cases e : j = i
    · subst e
      exact ⟨0, by omega, upd_eq _ _ _⟩
    · rw [upd_ne (by omega), upd_ne (by omega)]
      exact hA j hj
  · exact hA j hj

theorem in_f12 {x : Int32} (c : ((12 : Int32) ≤ x)) : bIn x 0 11 = false := by
  unfold bIn
  rw [decide_eq_false (p := x ≤ 11) (fun z => by
    rw [Int32.le_iff_toInt_le] at c z
    rw [show ((12 : Int32)).toInt = 12 from by decide] at c
    rw [show ((11 : Int32)).toInt = 11 from by decide] at z
    omega), Bool.and_false]
theorem in_t12 {x : Int32} (c1 : ¬ x < 0) (c2 : ¬ ((12 : Int32) ≤ x)) : bIn x 0 11 = true := by
  unfold bIn
  rw [decide_eq_true (Int32.not_lt.mp c1), decide_eq_true (p := x ≤ 11) (by
    have c := Int32.not_le.mp c2
    rw [Int32.lt_iff_toInt_lt, show ((12 : Int32)).toInt = 12 from by decide] at c
    rw [Int32.le_iff_toInt_le, show ((11 : Int32)).toInt = 11 from by decide]
    omega)]
  rfl
abbrev mX6_isPlace : MT := (RX6, cX6_isPlace, 1, (some .boolean), false)
theorem eX6_isPlace_0 : decode mX6_isPlace.2.1 0 = .ok (.iload_n 0, 1) := by decide +kernel
theorem eX6_isPlace_1 : decode mX6_isPlace.2.1 1 = .ok (.ifCond .lt 13, 3) := by decide +kernel
theorem eX6_isPlace_4 : decode mX6_isPlace.2.1 4 = .ok (.iload_n 0, 1) := by decide +kernel
theorem eX6_isPlace_5 : decode mX6_isPlace.2.1 5 = .ok (.bipush 12, 2) := by decide +kernel
theorem eX6_isPlace_7 : decode mX6_isPlace.2.1 7 = .ok (.if_icmp .ge 7, 3) := by decide +kernel
theorem eX6_isPlace_10 : decode mX6_isPlace.2.1 10 = .ok (.iconst 1, 1) := by decide +kernel
theorem eX6_isPlace_11 : decode mX6_isPlace.2.1 11 = .ok (.goto 4, 3) := by decide +kernel
theorem eX6_isPlace_14 : decode mX6_isPlace.2.1 14 = .ok (.iconst 0, 1) := by decide +kernel
theorem eX6_isPlace_15 : decode mX6_isPlace.2.1 15 = .ok (.ireturn, 1) := by decide +kernel
theorem c_X6_isPlace (x : Int32) (hd : 0 ≤ d) : Ct l G mX6_isPlace yX6_isPlace d 0 0 [.int x] h (fun r h' => r = some (.int (zb (bIn x 0 11))) ∧ h' = h) := by
  refine ct_of (lv := [some (.int x)]) (by decide +kernel) rfl (fun z => by cases z) (fun _ => rfl) (fun _ => Nat.le_of_ble_eq_true rfl) ?_
  refine aw_iload_n (pc' := 1) eX6_isPlace_0 rfl rfl ?_
  refine aw_if_lt (pc' := 4) (tgt := 14) eX6_isPlace_1 rfl (by decide) (fun c_1 => ?_) (fun c_1 => ?_)
  · refine aw_iconst (pc' := 15) (v := 0) eX6_isPlace_14 rfl (by decide) ?_
    refine aw_ret (v := some (.int _)) eX6_isPlace_15 ⟨rfl, rfl⟩ (by omega) (by omega) rfl ?_
    exact ⟨by rw [show bIn x 0 11 = false from by simp [bIn, Int32.not_le.mpr c_1]]; rfl, rfl⟩
  · refine aw_iload_n (pc' := 5) eX6_isPlace_4 rfl rfl ?_
    refine aw_bipush (pc' := 7) (v := 12) eX6_isPlace_5 rfl (by decide) ?_
    refine aw_icmp_ge (pc' := 10) (tgt := 14) eX6_isPlace_7 rfl (by decide) (fun c_7 => ?_) (fun c_7 => ?_)
    · refine aw_iconst (pc' := 15) (v := 0) eX6_isPlace_14 rfl (by decide) ?_
      refine aw_ret (v := some (.int _)) eX6_isPlace_15 ⟨rfl, rfl⟩ (by omega) (by omega) rfl ?_
      exact ⟨by rw [show bIn x 0 11 = false from in_f12 c_7]; rfl, rfl⟩
    · refine aw_iconst (pc' := 11) (v := 1) eX6_isPlace_10 rfl (by decide) ?_
      refine aw_goto eX6_isPlace_11 (by decide) (tgt := 15) ?_
      refine aw_ret (v := some (.int _)) eX6_isPlace_15 ⟨rfl, rfl⟩ (by omega) (by omega) rfl ?_
      exact ⟨by rw [show bIn x 0 11 = true from in_t12 c_1 c_7]; rfl, rfl⟩
theorem in_f6 {x : Int32} (c : ((6 : Int32) ≤ x)) : bIn x 0 5 = false := by
  unfold bIn
  rw [decide_eq_false (p := x ≤ 5) (fun z => by
    rw [Int32.le_iff_toInt_le] at c z
    rw [show ((6 : Int32)).toInt = 6 from by decide] at c
    rw [show ((5 : Int32)).toInt = 5 from by decide] at z
    omega), Bool.and_false]
theorem in_t6 {x : Int32} (c1 : ¬ x < 0) (c2 : ¬ ((6 : Int32) ≤ x)) : bIn x 0 5 = true := by
  unfold bIn
  rw [decide_eq_true (Int32.not_lt.mp c1), decide_eq_true (p := x ≤ 5) (by
    have c := Int32.not_le.mp c2
    rw [Int32.lt_iff_toInt_lt, show ((6 : Int32)).toInt = 6 from by decide] at c
    rw [Int32.le_iff_toInt_le, show ((5 : Int32)).toInt = 5 from by decide]
    omega)]
  rfl
abbrev mX6_isTape : MT := (RX6, cX6_isTape, 1, (some .boolean), false)
theorem eX6_isTape_0 : decode mX6_isTape.2.1 0 = .ok (.iload_n 0, 1) := by decide +kernel
theorem eX6_isTape_1 : decode mX6_isTape.2.1 1 = .ok (.ifCond .lt 13, 3) := by decide +kernel
theorem eX6_isTape_4 : decode mX6_isTape.2.1 4 = .ok (.iload_n 0, 1) := by decide +kernel
theorem eX6_isTape_5 : decode mX6_isTape.2.1 5 = .ok (.bipush 6, 2) := by decide +kernel
theorem eX6_isTape_7 : decode mX6_isTape.2.1 7 = .ok (.if_icmp .ge 7, 3) := by decide +kernel
theorem eX6_isTape_10 : decode mX6_isTape.2.1 10 = .ok (.iconst 1, 1) := by decide +kernel
theorem eX6_isTape_11 : decode mX6_isTape.2.1 11 = .ok (.goto 4, 3) := by decide +kernel
theorem eX6_isTape_14 : decode mX6_isTape.2.1 14 = .ok (.iconst 0, 1) := by decide +kernel
theorem eX6_isTape_15 : decode mX6_isTape.2.1 15 = .ok (.ireturn, 1) := by decide +kernel
theorem c_X6_isTape (x : Int32) (hd : 0 ≤ d) : Ct l G mX6_isTape yX6_isTape d 0 0 [.int x] h (fun r h' => r = some (.int (zb (bIn x 0 5))) ∧ h' = h) := by
  refine ct_of (lv := [some (.int x)]) (by decide +kernel) rfl (fun z => by cases z) (fun _ => rfl) (fun _ => Nat.le_of_ble_eq_true rfl) ?_
  refine aw_iload_n (pc' := 1) eX6_isTape_0 rfl rfl ?_
  refine aw_if_lt (pc' := 4) (tgt := 14) eX6_isTape_1 rfl (by decide) (fun c_1 => ?_) (fun c_1 => ?_)
  · refine aw_iconst (pc' := 15) (v := 0) eX6_isTape_14 rfl (by decide) ?_
    refine aw_ret (v := some (.int _)) eX6_isTape_15 ⟨rfl, rfl⟩ (by omega) (by omega) rfl ?_
    exact ⟨by rw [show bIn x 0 5 = false from by simp [bIn, Int32.not_le.mpr c_1]]; rfl, rfl⟩
  · refine aw_iload_n (pc' := 5) eX6_isTape_4 rfl rfl ?_
    refine aw_bipush (pc' := 7) (v := 6) eX6_isTape_5 rfl (by decide) ?_
    refine aw_icmp_ge (pc' := 10) (tgt := 14) eX6_isTape_7 rfl (by decide) (fun c_7 => ?_) (fun c_7 => ?_)
    · refine aw_iconst (pc' := 15) (v := 0) eX6_isTape_14 rfl (by decide) ?_
      refine aw_ret (v := some (.int _)) eX6_isTape_15 ⟨rfl, rfl⟩ (by omega) (by omega) rfl ?_
      exact ⟨by rw [show bIn x 0 5 = false from in_f6 c_7]; rfl, rfl⟩
    · refine aw_iconst (pc' := 11) (v := 1) eX6_isTape_10 rfl (by decide) ?_
      refine aw_goto eX6_isTape_11 (by decide) (tgt := 15) ?_
      refine aw_ret (v := some (.int _)) eX6_isTape_15 ⟨rfl, rfl⟩ (by omega) (by omega) rfl ?_
      exact ⟨by rw [show bIn x 0 5 = true from in_t6 c_1 c_7]; rfl, rfl⟩
abbrev mX6_trialComes : MT := (RX6, cX6_trialComes, 4, (some .int), false)
theorem eX6_trialComes_0 : decode mX6_trialComes.2.1 0 = .ok (.iconst 0, 1) := by decide +kernel
theorem eX6_trialComes_1 : decode mX6_trialComes.2.1 1 = .ok (.istore_n 3, 1) := by decide +kernel
theorem eX6_trialComes_2 : decode mX6_trialComes.2.1 2 = .ok (.iload_n 3, 1) := by decide +kernel
theorem eX6_trialComes_3 : decode mX6_trialComes.2.1 3 = .ok (.bipush 60, 2) := by decide +kernel
theorem eX6_trialComes_5 : decode mX6_trialComes.2.1 5 = .ok (.if_icmp .ge 31, 3) := by decide +kernel
theorem eX6_trialComes_8 : decode mX6_trialComes.2.1 8 = .ok (.aload_n 0, 1) := by decide +kernel
theorem eX6_trialComes_9 : decode mX6_trialComes.2.1 9 = .ok (.getfield 21, 3) := by decide +kernel
theorem eX6_trialComes_12 : decode mX6_trialComes.2.1 12 = .ok (.getfield 99, 3) := by decide +kernel
theorem eX6_trialComes_15 : decode mX6_trialComes.2.1 15 = .ok (.iload_n 1, 1) := by decide +kernel
theorem eX6_trialComes_16 : decode mX6_trialComes.2.1 16 = .ok (.iaload, 1) := by decide +kernel
theorem eX6_trialComes_17 : decode mX6_trialComes.2.1 17 = .ok (.iload_n 2, 1) := by decide +kernel
theorem eX6_trialComes_18 : decode mX6_trialComes.2.1 18 = .ok (.if_icmp .lt 5, 3) := by decide +kernel
theorem eX6_trialComes_21 : decode mX6_trialComes.2.1 21 = .ok (.iload_n 3, 1) := by decide +kernel
theorem eX6_trialComes_22 : decode mX6_trialComes.2.1 22 = .ok (.ireturn, 1) := by decide +kernel
theorem eX6_trialComes_23 : decode mX6_trialComes.2.1 23 = .ok (.aload_n 0, 1) := by decide +kernel
theorem eX6_trialComes_24 : decode mX6_trialComes.2.1 24 = .ok (.getfield 21, 3) := by decide +kernel
theorem eX6_trialComes_27 : decode mX6_trialComes.2.1 27 = .ok (.invokevirtual 262, 3) := by decide +kernel
theorem eX6_trialComes_30 : decode mX6_trialComes.2.1 30 = .ok (.iinc 3 1, 3) := by decide +kernel
theorem eX6_trialComes_33 : decode mX6_trialComes.2.1 33 = .ok (.goto (-31), 3) := by decide +kernel
theorem eX6_trialComes_36 : decode mX6_trialComes.2.1 36 = .ok (.aload_n 0, 1) := by decide +kernel
theorem eX6_trialComes_37 : decode mX6_trialComes.2.1 37 = .ok (.getfield 21, 3) := by decide +kernel
theorem eX6_trialComes_40 : decode mX6_trialComes.2.1 40 = .ok (.getfield 99, 3) := by decide +kernel
theorem eX6_trialComes_43 : decode mX6_trialComes.2.1 43 = .ok (.iload_n 1, 1) := by decide +kernel
theorem eX6_trialComes_44 : decode mX6_trialComes.2.1 44 = .ok (.iaload, 1) := by decide +kernel
theorem eX6_trialComes_45 : decode mX6_trialComes.2.1 45 = .ok (.iload_n 2, 1) := by decide +kernel
theorem eX6_trialComes_46 : decode mX6_trialComes.2.1 46 = .ok (.if_icmp .lt 8, 3) := by decide +kernel
theorem eX6_trialComes_49 : decode mX6_trialComes.2.1 49 = .ok (.bipush 60, 2) := by decide +kernel
theorem eX6_trialComes_51 : decode mX6_trialComes.2.1 51 = .ok (.goto 5, 3) := by decide +kernel
theorem eX6_trialComes_54 : decode mX6_trialComes.2.1 54 = .ok (.bipush (-5), 2) := by decide +kernel
theorem eX6_trialComes_56 : decode mX6_trialComes.2.1 56 = .ok (.ireturn, 1) := by decide +kernel
theorem lp_X6_trialComes {i : Nat} (hi : i < 6) {st : Int32} (hd : 5 ≤ d) {h0 : Hp} : ∀ (k q t : Nat) (y : Int32) (g : Nat → Int32) (h : Hp), q + k = 60 → y = nI q → gOk g m t → gAge g m t → t + k ≤ 1000000 → OA h 16 (.inr (6, afs bi se)) → WF F h 27 g (nI 2147483647) → Same 27 10 h0 h → (∀ h', DT h' 27 (nI 2147483647) → Same 27 10 h0 h' → Q (some (.int (sCome F m st i (k + 1) q t g))) h') → AW l G mX6_trialComes d 0 0 Q 0 0 h [some (.ref 16), some (.int (nI i)), some (.int st), some (.int y)] [] 2 := by
  intro k
  induction k with
  | zero =>
    intro q t y g h hq hy hg hA htk hO hT hs hQ
    subst hy
    refine aw_iload_n (pc' := 3) eX6_trialComes_2 rfl rfl ?_
    refine aw_bipush (pc' := 5) (v := 60) eX6_trialComes_3 rfl (by decide) ?_
    refine aw_icmp_ge (pc' := 8) (tgt := 36) eX6_trialComes_5 rfl (by decide) (fun c_5 => ?_) (fun c_5 => ?_)
    · refine aw_aload_n (pc' := 37) eX6_trialComes_36 rfl rfl trivial ?_
      refine aw_Oget (pc' := 40) (ci := 6) (kf := 1) (N := 14) (.ref 27) hO eX6_trialComes_37 rfl rfl rfl inX6 (by decide) q251 rfl ?_
      refine aw_Fref (pc' := 43) (kf := 4) hT eX6_trialComes_40 rfl (by decide) q105 ?_
      refine aw_iload_n (pc' := 44) eX6_trialComes_43 rfl rfl ?_
      refine aw_Fld (pc' := 45) 4 3 i hT eX6_trialComes_44 rfl (by decide) rfl (show vp_in _ 6 from vp_in_nI (by omega) (by omega)) (nI_clamp (by omega)) ?_
      refine aw_iload_n (pc' := 46) eX6_trialComes_45 rfl rfl ?_
      refine aw_icmp_lt (pc' := 49) (tgt := 54) eX6_trialComes_46 rfl (by decide) (fun c_46 => ?_) (fun c_46 => ?_)
      · refine aw_bipush (pc' := 56) (v := -5) eX6_trialComes_54 rfl (by decide) ?_
        refine aw_ret (v := some (.int _)) eX6_trialComes_56 ⟨rfl, rfl⟩ (by omega) (by omega) rfl ?_
        rw [sCome, if_neg (Int32.not_le.mpr c_46), sCome] at hQ
        exact hQ _ hT.dt hs
      · refine aw_bipush (pc' := 51) (v := 60) eX6_trialComes_49 rfl (by decide) ?_
        refine aw_goto eX6_trialComes_51 (by decide) (tgt := 56) ?_
        refine aw_ret (v := some (.int _)) eX6_trialComes_56 ⟨rfl, rfl⟩ (by omega) (by omega) rfl ?_
        rw [sCome, if_pos (Int32.not_lt.mp c_46), show nI q = 60 by rw [show q = 60 by omega]; rfl] at hQ
        exact hQ _ hT.dt hs
    · exact absurd (by omega : q = 60) (fun e => c_5 (by rw [e]; exact Int32.le_refl _))
  | succ k ih =>
    intro q t y g h hq hy hg hA htk hO hT hs hQ
    subst hy
    refine aw_iload_n (pc' := 3) eX6_trialComes_2 rfl rfl ?_
    refine aw_bipush (pc' := 5) (v := 60) eX6_trialComes_3 rfl (by decide) ?_
    refine aw_icmp_ge (pc' := 8) (tgt := 36) eX6_trialComes_5 rfl (by decide) (fun c_5 => ?_) (fun c_5 => ?_)
    · exact absurd (ge_nI (a := q) (b := 60) (by omega) (by omega) c_5) (by omega)
    · refine aw_aload_n (pc' := 9) eX6_trialComes_8 rfl rfl trivial ?_
      refine aw_Oget (pc' := 12) (ci := 6) (kf := 1) (N := 14) (.ref 27) hO eX6_trialComes_9 rfl rfl rfl inX6 (by decide) q251 rfl ?_
      refine aw_Fref (pc' := 15) (kf := 4) hT eX6_trialComes_12 rfl (by decide) q105 ?_
      refine aw_iload_n (pc' := 16) eX6_trialComes_15 rfl rfl ?_
      refine aw_Fld (pc' := 17) 4 3 i hT eX6_trialComes_16 rfl (by decide) rfl (show vp_in _ 6 from vp_in_nI (by omega) (by omega)) (nI_clamp (by omega)) ?_
      refine aw_iload_n (pc' := 18) eX6_trialComes_17 rfl rfl ?_
      refine aw_icmp_lt (pc' := 21) (tgt := 23) eX6_trialComes_18 rfl (by decide) (fun c_18 => ?_) (fun c_18 => ?_)
      · refine aw_aload_n (pc' := 24) eX6_trialComes_23 rfl rfl trivial ?_
        refine aw_Oget (pc' := 27) (ci := 6) (kf := 1) (N := 14) (.ref 27) hO eX6_trialComes_24 rfl rfl rfl inX6 (by decide) q251 rfl ?_
        refine aw_callv (pc' := 30) (nn := 0) (c_X5_dayGoes (d := d - 1) hT hg hA (by omega) (by omega) (by omega)) eX6_trialComes_27 rfl ⟨q346, q349, q56⟩ q347 q348 ⟨rfl, by decide +kernel, by decide +kernel, by decide +kernel⟩ rfl hT.ob rfl ⟨by omega, by decide⟩ ⟨by omega, by omega⟩ rfl (Nat.le_of_ble_eq_true rfl) (fun v3 h4 hq5 => ?_)
        obtain ⟨rfl, hW1, hs2⟩ := hq5
        have hF6 := hO.fr hs2 (by omega)
        dsimp only [Option.toList, List.cons_append, List.nil_append]
        refine aw_iinc (pc' := 33) eX6_trialComes_30 rfl rfl rfl (by decide) ?_
        dsimp only [zst, zst2, zcut]
        refine aw_goto eX6_trialComes_33 (by decide) (tgt := 2) ?_
        rw [sCome, if_neg (Int32.not_le.mpr c_18)] at hQ
        exact ih (q + 1) (t + 1) _ _ _ (by omega) (nI_inc q) (sDay_ok hg (by omega)) (hA.day hg.2.1) (by omega) hF6 hW1 (hs.tr hs2) hQ
      · refine aw_iload_n (pc' := 22) eX6_trialComes_21 rfl rfl ?_
        refine aw_ret (v := some (.int _)) eX6_trialComes_22 ⟨rfl, rfl⟩ (by omega) (by omega) rfl ?_
        rw [sCome, if_pos (Int32.not_lt.mp c_18)] at hQ
        exact hQ _ hT.dt hs
theorem c_X6_trialComes (hO : OA h 16 (.inr (6, afs bi se))) (hT : WF F h 27 g (nI 2147483647)) (hg : gOk g m t) (hA : gAge g m t) (ht9 : t ≤ 20000) {i : Nat} (hi : i < 6) (st : Int32) (hd : 5 ≤ d) : Ct l G mX6_trialComes yX6_trialComes d 0 0 [.ref 16, .int (nI i), .int st] h (fun r h' => r = some (.int (sCome F m st i 61 0 t g)) ∧ DT h' 27 (nI 2147483647) ∧ Same 27 10 h h') := by
  refine ct_of (lv := [some (.ref 16), some (.int (nI i)), some (.int st), none]) (by decide +kernel) rfl (fun z => by cases z) (fun _ => rfl) (fun _ => Nat.le_of_ble_eq_true rfl) ?_
  refine aw_iconst (pc' := 1) (v := 0) eX6_trialComes_0 rfl (by decide) ?_
  refine aw_istore_n (pc' := 2) eX6_trialComes_1 rfl (by decide) ?_
  dsimp only [zst, zst2, zcut]
  exact lp_X6_trialComes hi hd 60 0 t _ g _ rfl rfl hg hA (by omega) hO hT Same.rf (fun h' a b => ⟨rfl, a, b⟩)
abbrev mX6_trialFromFinderAt : MT := (RX6, cX6_trialFromFinderAt, 3, none, false)
theorem eX6_trialFromFinderAt_0 : decode mX6_trialFromFinderAt.2.1 0 = .ok (.aload_n 0, 1) := by decide +kernel
theorem eX6_trialFromFinderAt_1 : decode mX6_trialFromFinderAt.2.1 1 = .ok (.getfield 21, 3) := by decide +kernel
theorem eX6_trialFromFinderAt_4 : decode mX6_trialFromFinderAt.2.1 4 = .ok (.aload_n 0, 1) := by decide +kernel
theorem eX6_trialFromFinderAt_5 : decode mX6_trialFromFinderAt.2.1 5 = .ok (.getfield 16, 3) := by decide +kernel
theorem eX6_trialFromFinderAt_8 : decode mX6_trialFromFinderAt.2.1 8 = .ok (.invokevirtual 118, 3) := by decide +kernel
theorem eX6_trialFromFinderAt_11 : decode mX6_trialFromFinderAt.2.1 11 = .ok (.aload_n 0, 1) := by decide +kernel
theorem eX6_trialFromFinderAt_12 : decode mX6_trialFromFinderAt.2.1 12 = .ok (.getfield 21, 3) := by decide +kernel
theorem eX6_trialFromFinderAt_15 : decode mX6_trialFromFinderAt.2.1 15 = .ok (.iload_n 1, 1) := by decide +kernel
theorem eX6_trialFromFinderAt_16 : decode mX6_trialFromFinderAt.2.1 16 = .ok (.putfield 144, 3) := by decide +kernel
theorem eX6_trialFromFinderAt_19 : decode mX6_trialFromFinderAt.2.1 19 = .ok (.aload_n 0, 1) := by decide +kernel
theorem eX6_trialFromFinderAt_20 : decode mX6_trialFromFinderAt.2.1 20 = .ok (.getfield 21, 3) := by decide +kernel
theorem eX6_trialFromFinderAt_23 : decode mX6_trialFromFinderAt.2.1 23 = .ok (.iload_n 2, 1) := by decide +kernel
theorem eX6_trialFromFinderAt_24 : decode mX6_trialFromFinderAt.2.1 24 = .ok (.invokevirtual 179, 3) := by decide +kernel
theorem eX6_trialFromFinderAt_27 : decode mX6_trialFromFinderAt.2.1 27 = .ok (.return_, 1) := by decide +kernel
theorem c_X6_trialFromFinderAt (hO : OA h 16 (.inr (6, afs bi se))) (hN : WF F h 17 g (nI 9999)) (hT : DT h 27 (nI 2147483647)) (hg : gOk g m t) (hA : gAge g m t) (ht9 : t ≤ 20000) {p x : Nat} (hx : x ≤ 1000) (hd : 6 ≤ d) : Ct l G mX6_trialFromFinderAt yX6_trialFromFinderAt d 0 0 [.ref 16, .int (nI p), .int (nI x)] h (fun r h' => r = none ∧ WF F h' 27 (sDys F m x t (upd g 62 (nI p))) (nI 2147483647) ∧ Same 27 10 h h') := by
  refine ct_of (lv := [some (.ref 16), some (.int (nI p)), some (.int (nI x))]) (by decide +kernel) rfl (fun z => by cases z) (fun _ => rfl) (fun _ => Nat.le_of_ble_eq_true rfl) ?_
  refine aw_aload_n (pc' := 1) eX6_trialFromFinderAt_0 rfl rfl trivial ?_
  refine aw_Oget (pc' := 4) (ci := 6) (kf := 1) (N := 14) (.ref 27) hO eX6_trialFromFinderAt_1 rfl rfl rfl inX6 (by decide) q251 rfl ?_
  refine aw_aload_n (pc' := 5) eX6_trialFromFinderAt_4 rfl rfl trivial ?_
  refine aw_Oget (pc' := 8) (ci := 6) (kf := 0) (N := 14) (.ref 17) hO eX6_trialFromFinderAt_5 rfl rfl rfl inX6 (by decide) q250 rfl ?_
  refine aw_callv (pc' := 11) (nn := 1) (c_X5_becomes (d := d - 1) hN hT (by omega) (by omega) (by omega)) eX6_trialFromFinderAt_8 rfl ⟨q332, q335, q56⟩ q333 q334 ⟨rfl, by decide +kernel, by decide +kernel, by decide +kernel⟩ rfl hT.ob rfl ⟨by omega, by decide⟩ ⟨by omega, by omega⟩ rfl (Nat.le_of_ble_eq_true rfl) (fun v3 h4 hq5 => ?_)
  obtain ⟨rfl, hW1, hs2⟩ := hq5
  have hF6 := hO.fr hs2 (by omega)
  have hF7 := hN.fr hs2 (by omega)
  dsimp only [Option.toList, List.cons_append, List.nil_append]
  refine aw_aload_n (pc' := 12) eX6_trialFromFinderAt_11 rfl rfl trivial ?_
  refine aw_Oget (pc' := 15) (ci := 6) (kf := 1) (N := 14) (.ref 27) hF6 eX6_trialFromFinderAt_12 rfl rfl rfl inX6 (by decide) q251 rfl ?_
  refine aw_iload_n (pc' := 16) eX6_trialFromFinderAt_15 rfl rfl ?_
  refine aw_Fput (pc' := 19) 12 hW1 eX6_trialFromFinderAt_16 rfl (by decide) q120 (fun h10 hW8 hs9 => ?_)
  have hT11 := hs2.tr hs9
  have hF12 := hF6.fr hs9 (by omega)
  have hF13 := hF7.fr hs9 (by omega)
  have hT8 : WF F _ 27 (upd g 62 (nI p)) (nI 2147483647) := hW8
  refine aw_aload_n (pc' := 20) eX6_trialFromFinderAt_19 rfl rfl trivial ?_
  refine aw_Oget (pc' := 23) (ci := 6) (kf := 1) (N := 14) (.ref 27) hF12 eX6_trialFromFinderAt_20 rfl rfl rfl inX6 (by decide) q251 rfl ?_
  refine aw_iload_n (pc' := 24) eX6_trialFromFinderAt_23 rfl rfl ?_
  refine aw_callv (pc' := 27) (nn := 1) (c_X5_daysGo (d := d - 1) hT8 (u62_ok hg) (hA.of fun i hi => upd_ne (by have := hg.2.1; omega)) (x := x) (by omega) (by omega) (by omega) (by omega) (by omega)) eX6_trialFromFinderAt_24 rfl ⟨q604, q607, q56⟩ q605 q606 ⟨rfl, by decide +kernel, by decide +kernel, by decide +kernel⟩ rfl hT8.ob rfl ⟨by omega, by decide⟩ ⟨by omega, by omega⟩ rfl (Nat.le_of_ble_eq_true rfl) (fun v16 h17 hq18 => ?_)
  obtain ⟨rfl, hW14, hs15⟩ := hq18
  have hT19 := hT11.tr hs15
  have hF20 := hF12.fr hs15 (by omega)
  have hF21 := hF13.fr hs15 (by omega)
  dsimp only [Option.toList, List.cons_append, List.nil_append]
  refine aw_ret (v := none) eX6_trialFromFinderAt_27 rfl (by omega) (by omega) rfl ?_
  exact ⟨rfl, hW14, hT19⟩
abbrev mX6_blowOf : MT := (RX6, cX6_blowOf, 6, (some .int), false)
theorem eX6_blowOf_0 : decode mX6_blowOf.2.1 0 = .ok (.bipush (-5), 2) := by decide +kernel
theorem eX6_blowOf_2 : decode mX6_blowOf.2.1 2 = .ok (.istore_n 2, 1) := by decide +kernel
theorem eX6_blowOf_3 : decode mX6_blowOf.2.1 3 = .ok (.bipush 61, 2) := by decide +kernel
theorem eX6_blowOf_5 : decode mX6_blowOf.2.1 5 = .ok (.istore_n 3, 1) := by decide +kernel
theorem eX6_blowOf_6 : decode mX6_blowOf.2.1 6 = .ok (.iconst 0, 1) := by decide +kernel
theorem eX6_blowOf_7 : decode mX6_blowOf.2.1 7 = .ok (.istore 4, 2) := by decide +kernel
theorem eX6_blowOf_9 : decode mX6_blowOf.2.1 9 = .ok (.iload 4, 2) := by decide +kernel
theorem eX6_blowOf_11 : decode mX6_blowOf.2.1 11 = .ok (.bipush 9, 2) := by decide +kernel
theorem eX6_blowOf_13 : decode mX6_blowOf.2.1 13 = .ok (.if_icmp .gt 59, 3) := by decide +kernel
theorem eX6_blowOf_16 : decode mX6_blowOf.2.1 16 = .ok (.aload_n 0, 1) := by decide +kernel
theorem eX6_blowOf_17 : decode mX6_blowOf.2.1 17 = .ok (.getfield 21, 3) := by decide +kernel
theorem eX6_blowOf_20 : decode mX6_blowOf.2.1 20 = .ok (.aload_n 0, 1) := by decide +kernel
theorem eX6_blowOf_21 : decode mX6_blowOf.2.1 21 = .ok (.getfield 16, 3) := by decide +kernel
theorem eX6_blowOf_24 : decode mX6_blowOf.2.1 24 = .ok (.invokevirtual 118, 3) := by decide +kernel
theorem eX6_blowOf_27 : decode mX6_blowOf.2.1 27 = .ok (.aload_n 0, 1) := by decide +kernel
theorem eX6_blowOf_28 : decode mX6_blowOf.2.1 28 = .ok (.getfield 21, 3) := by decide +kernel
theorem eX6_blowOf_31 : decode mX6_blowOf.2.1 31 = .ok (.getfield 147, 3) := by decide +kernel
theorem eX6_blowOf_34 : decode mX6_blowOf.2.1 34 = .ok (.iload 4, 2) := by decide +kernel
theorem eX6_blowOf_36 : decode mX6_blowOf.2.1 36 = .ok (.invokestatic 256, 3) := by decide +kernel
theorem eX6_blowOf_39 : decode mX6_blowOf.2.1 39 = .ok (.aload_n 0, 1) := by decide +kernel
theorem eX6_blowOf_40 : decode mX6_blowOf.2.1 40 = .ok (.iload_n 1, 1) := by decide +kernel
theorem eX6_blowOf_41 : decode mX6_blowOf.2.1 41 = .ok (.iconst 3, 1) := by decide +kernel
theorem eX6_blowOf_42 : decode mX6_blowOf.2.1 42 = .ok (.invokevirtual 122, 3) := by decide +kernel
theorem eX6_blowOf_45 : decode mX6_blowOf.2.1 45 = .ok (.istore 5, 2) := by decide +kernel
theorem eX6_blowOf_47 : decode mX6_blowOf.2.1 47 = .ok (.iload 5, 2) := by decide +kernel
theorem eX6_blowOf_49 : decode mX6_blowOf.2.1 49 = .ok (.bipush (-5), 2) := by decide +kernel
theorem eX6_blowOf_51 : decode mX6_blowOf.2.1 51 = .ok (.if_icmp .eq 15, 3) := by decide +kernel
theorem eX6_blowOf_54 : decode mX6_blowOf.2.1 54 = .ok (.iload 5, 2) := by decide +kernel
theorem eX6_blowOf_56 : decode mX6_blowOf.2.1 56 = .ok (.iload_n 3, 1) := by decide +kernel
theorem eX6_blowOf_57 : decode mX6_blowOf.2.1 57 = .ok (.if_icmp .ge 9, 3) := by decide +kernel
theorem eX6_blowOf_60 : decode mX6_blowOf.2.1 60 = .ok (.iload 5, 2) := by decide +kernel
theorem eX6_blowOf_62 : decode mX6_blowOf.2.1 62 = .ok (.istore_n 3, 1) := by decide +kernel
theorem eX6_blowOf_63 : decode mX6_blowOf.2.1 63 = .ok (.iload 4, 2) := by decide +kernel
theorem eX6_blowOf_65 : decode mX6_blowOf.2.1 65 = .ok (.istore_n 2, 1) := by decide +kernel
theorem eX6_blowOf_66 : decode mX6_blowOf.2.1 66 = .ok (.iinc 4 1, 3) := by decide +kernel
theorem eX6_blowOf_69 : decode mX6_blowOf.2.1 69 = .ok (.goto (-60), 3) := by decide +kernel
theorem eX6_blowOf_72 : decode mX6_blowOf.2.1 72 = .ok (.iload_n 2, 1) := by decide +kernel
theorem eX6_blowOf_73 : decode mX6_blowOf.2.1 73 = .ok (.ireturn, 1) := by decide +kernel
theorem lp_X6_blowOf (hg : gOk g m t) (hA : gAge g m t) (ht9 : t ≤ 20000) {i : Nat} (hi : i < 6) (hd : 7 ≤ d) {h0 : Hp} (hQ : ∀ h', DT h' 27 (nI 2147483647) → Same 27 10 h0 h' → Q (some (.int (sBlow F g m t i 10).1)) h') : ∀ (j c : Nat) (y x2 x3 : Int32) (o5 : Option Value) (h : Hp), j = 10 - c → c ≤ 10 → y = nI c → x2 = (sBlow F g m t i c).1 → x3 = lst (sBlow F g m t i c).2 → OA h 16 (.inr (6, afs bi se)) → WF F h 17 g (nI 9999) → DT h 27 (nI 2147483647) → Same 27 10 h0 h → AW l G mX6_blowOf d 0 0 Q 0 0 h [some (.ref 16), some (.int (nI i)), some (.int x2), some (.int x3), some (.int y), o5] [] 9 := by
  intro j
  induction j using Nat.strongRecOn with
  | _ j ih =>
    intro c y x2 x3 o5 h hj hc hy hx2 hx3 hO hN hT hs
    subst hy hx2 hx3
    refine aw_iload (pc' := 11) eX6_blowOf_9 rfl rfl ?_
    refine aw_bipush (pc' := 13) (v := 9) eX6_blowOf_11 rfl (by decide) ?_
    refine aw_icmp_gt (pc' := 16) (tgt := 72) eX6_blowOf_13 rfl (by decide) (fun c_13 => ?_) (fun c_13 => ?_)
    · have c9 : c = 10 := by have := (nI_ltI (a := 9) (b := c) (by omega) (by omega)).mp c_13; omega
      subst c9
      refine aw_iload_n (pc' := 73) eX6_blowOf_72 rfl rfl ?_
      refine aw_ret (v := some (.int _)) eX6_blowOf_73 ⟨rfl, rfl⟩ (by omega) (by omega) rfl ?_
      exact hQ _ hT hs
    · have c9 : c < 10 := by rcases Nat.lt_or_ge c 10 with z | z; exact z; exact absurd ((nI_ltI (a := 9) (b := c) (by omega) (by omega)).mpr (by omega)) c_13
      refine aw_aload_n (pc' := 17) eX6_blowOf_16 rfl rfl trivial ?_
      refine aw_Oget (pc' := 20) (ci := 6) (kf := 1) (N := 14) (.ref 27) hO eX6_blowOf_17 rfl rfl rfl inX6 (by decide) q251 rfl ?_
      refine aw_aload_n (pc' := 21) eX6_blowOf_20 rfl rfl trivial ?_
      refine aw_Oget (pc' := 24) (ci := 6) (kf := 0) (N := 14) (.ref 17) hO eX6_blowOf_21 rfl rfl rfl inX6 (by decide) q250 rfl ?_
      refine aw_callv (pc' := 27) (nn := 1) (c_X5_becomes (d := d - 1) hN hT (by omega) (by omega) (by omega)) eX6_blowOf_24 rfl ⟨q332, q335, q56⟩ q333 q334 ⟨rfl, by decide +kernel, by decide +kernel, by decide +kernel⟩ rfl hT.ob rfl ⟨by omega, by decide⟩ ⟨by omega, by omega⟩ rfl (Nat.le_of_ble_eq_true rfl) (fun v3 h4 hq5 => ?_)
      obtain ⟨rfl, hW1, hs2⟩ := hq5
      have hF6 := hO.fr hs2 (by omega)
      have hF7 := hN.fr hs2 (by omega)
      dsimp only [Option.toList, List.cons_append, List.nil_append]
      refine aw_aload_n (pc' := 28) eX6_blowOf_27 rfl rfl trivial ?_
      refine aw_Oget (pc' := 31) (ci := 6) (kf := 1) (N := 14) (.ref 27) hF6 eX6_blowOf_28 rfl rfl rfl inX6 (by decide) q251 rfl ?_
      refine aw_Fref (pc' := 34) (kf := 8) hW1 eX6_blowOf_31 rfl (by decide) q113 ?_
      refine aw_iload (pc' := 36) eX6_blowOf_34 rfl rfl ?_
      obtain ⟨fc, hfc, hfk⟩ := hW1.fill (x := nI c)
      refine aw_calls (pc' := 39) (nn := 2) (c_J7_fill_53178 (d := d - 1) (N := 4) (by omega) (nI c) hfc (by omega)) eX6_blowOf_36 rfl ⟨q339, q341, q65⟩ q340 ⟨by decide +kernel, by decide +kernel, by decide +kernel⟩ rfl ⟨by omega, by decide⟩ ⟨by omega, by omega⟩ rfl (Nat.le_of_ble_eq_true rfl) (fun v8 h9 hq10 => ?_)
      obtain ⟨rfl, f9, hf9, hO9, hs9⟩ := hq10
      obtain ⟨hT9, hsT9⟩ := hfk _ f9 hf9 hO9 hs9
      have hT11 := hs2.tr hsT9
      have hF12 := hF6.fr hsT9 (by omega)
      have hF13 := hF7.fr hsT9 (by omega)
      dsimp only [Option.toList, List.cons_append, List.nil_append]
      refine aw_aload_n (pc' := 40) eX6_blowOf_39 rfl rfl trivial ?_
      refine aw_iload_n (pc' := 41) eX6_blowOf_40 rfl rfl ?_
      refine aw_iconst (pc' := 42) (v := 3) eX6_blowOf_41 rfl (by decide) ?_
      refine aw_callv (pc' := 45) (nn := 2) (c_X6_trialComes (d := d - 1) hF12 hT9 (gOk_of hg (sCur_ne (by omega)) (sCur_ne (by omega)) (sCur_ne (by omega))) (hA.of fun j hj => sCur_ne (by have := hg.2.1; omega)) ht9 (i := i) hi 3 (by omega)) eX6_blowOf_42 rfl ⟨q342, q345, q55⟩ q344 q3 ⟨rfl, by decide +kernel, by decide +kernel, by decide +kernel⟩ rfl (by rw [hF12.1]; exact ⟨rfl, rfl⟩) rfl ⟨by omega, by decide⟩ ⟨by omega, by omega⟩ rfl (Nat.le_of_ble_eq_true rfl) (fun v16 h17 hq18 => ?_)
      obtain ⟨rfl, hW14, hs15⟩ := hq18
      have hT19 := hT11.tr hs15
      have hF20 := hF12.fr hs15 (by omega)
      have hF21 := hF13.fr hs15 (by omega)
      dsimp only [Option.toList, List.cons_append, List.nil_append]
      refine aw_istore (pc' := 47) eX6_blowOf_45 rfl (by decide) ?_
      dsimp only [zst, zst2, zcut]
      refine aw_iload (pc' := 49) eX6_blowOf_47 rfl rfl ?_
      refine aw_bipush (pc' := 51) (v := -5) eX6_blowOf_49 rfl (by decide) ?_
      refine aw_icmp_eq (pc' := 54) (tgt := 66) eX6_blowOf_51 rfl (by decide) (fun c_51 => ?_) (fun c_51 => ?_)
      · refine aw_iinc (pc' := 69) eX6_blowOf_66 rfl rfl rfl (by decide) ?_
        dsimp only [zst, zst2, zcut]
        refine aw_goto eX6_blowOf_69 (by decide) (tgt := 9) ?_
        have sb := (st_b (sCome F m 3 i 61 0 t (sCur g (nI c))) sCome_D (sBlow F g m t i c).2 (sBlow_B c)).2
        have s1 := sb.2 (fun z => z.1 c_51)
        refine ih (10 - (c + 1)) (by omega) (c + 1) _ _ _ _ _ rfl (by omega) (nI_inc c) ?_ ?_ hF20 hF21 hW14 (hs.tr hT19)
        · rw [sBlow, if_neg s1.1]
        · rw [sBlow]
          exact s1.2.symm
      · refine aw_iload (pc' := 56) eX6_blowOf_54 rfl rfl ?_
        refine aw_iload_n (pc' := 57) eX6_blowOf_56 rfl rfl ?_
        refine aw_icmp_ge (pc' := 60) (tgt := 66) eX6_blowOf_57 rfl (by decide) (fun c_57 => ?_) (fun c_57 => ?_)
        · refine aw_iinc (pc' := 69) eX6_blowOf_66 rfl rfl rfl (by decide) ?_
          dsimp only [zst, zst2, zcut]
          refine aw_goto eX6_blowOf_69 (by decide) (tgt := 9) ?_
          have sb := (st_b (sCome F m 3 i 61 0 t (sCur g (nI c))) sCome_D (sBlow F g m t i c).2 (sBlow_B c)).2
          have s1 := sb.2 (fun z => absurd z.2 (Int32.not_lt.mpr c_57))
          refine ih (10 - (c + 1)) (by omega) (c + 1) _ _ _ _ _ rfl (by omega) (nI_inc c) ?_ ?_ hF20 hF21 hW14 (hs.tr hT19)
          · rw [sBlow, if_neg s1.1]
          · rw [sBlow]
            exact s1.2.symm
        · refine aw_iload (pc' := 62) eX6_blowOf_60 rfl rfl ?_
          refine aw_istore_n (pc' := 63) eX6_blowOf_62 rfl (by decide) ?_
          dsimp only [zst, zst2, zcut]
          refine aw_iload (pc' := 65) eX6_blowOf_63 rfl rfl ?_
          refine aw_istore_n (pc' := 66) eX6_blowOf_65 rfl (by decide) ?_
          dsimp only [zst, zst2, zcut]
          refine aw_iinc (pc' := 69) eX6_blowOf_66 rfl rfl rfl (by decide) ?_
          dsimp only [zst, zst2, zcut]
          refine aw_goto eX6_blowOf_69 (by decide) (tgt := 9) ?_
          have sb := (st_b (sCome F m 3 i 61 0 t (sCur g (nI c))) sCome_D (sBlow F g m t i c).2 (sBlow_B c)).2
          have s1 := sb.1 ⟨c_51, Int32.not_le.mp c_57⟩
          refine ih (10 - (c + 1)) (by omega) (c + 1) _ _ _ _ _ rfl (by omega) (nI_inc c) ?_ ?_ hF20 hF21 hW14 (hs.tr hT19)
          · rw [sBlow, if_pos s1.1]
          · rw [sBlow]
            exact s1.2.symm
theorem c_X6_blowOf (hO : OA h 16 (.inr (6, afs bi se))) (hN : WF F h 17 g (nI 9999)) (hT : DT h 27 (nI 2147483647)) (hg : gOk g m t) (hA : gAge g m t) (ht9 : t ≤ 20000) {i : Nat} (hi : i < 6) (hd : 7 ≤ d) : Ct l G mX6_blowOf yX6_blowOf d 0 0 [.ref 16, .int (nI i)] h (fun r h' => r = some (.int (sBlow F g m t i 10).1) ∧ DT h' 27 (nI 2147483647) ∧ Same 27 10 h h') := by
  refine ct_of (lv := [some (.ref 16), some (.int (nI i)), none, none, none, none]) (by decide +kernel) rfl (fun z => by cases z) (fun _ => rfl) (fun _ => Nat.le_of_ble_eq_true rfl) ?_
  refine aw_bipush (pc' := 2) (v := -5) eX6_blowOf_0 rfl (by decide) ?_
  refine aw_istore_n (pc' := 3) eX6_blowOf_2 rfl (by decide) ?_
  dsimp only [zst, zst2, zcut]
  refine aw_bipush (pc' := 5) (v := 61) eX6_blowOf_3 rfl (by decide) ?_
  refine aw_istore_n (pc' := 6) eX6_blowOf_5 rfl (by decide) ?_
  dsimp only [zst, zst2, zcut]
  refine aw_iconst (pc' := 7) (v := 0) eX6_blowOf_6 rfl (by decide) ?_
  refine aw_istore (pc' := 9) eX6_blowOf_7 rfl (by decide) ?_
  dsimp only [zst, zst2, zcut]
  exact lp_X6_blowOf hg hA ht9 hi hd (fun h' a b => ⟨rfl, a, b⟩) 10 0 _ _ _ _ _ (by omega) (by omega) rfl rfl rfl hO hN hT Same.rf
abbrev mX6_newsOf : MT := (RX6, cX6_newsOf, 7, (some .int), false)
theorem eX6_newsOf_0 : decode mX6_newsOf.2.1 0 = .ok (.aload_n 0, 1) := by decide +kernel
theorem eX6_newsOf_1 : decode mX6_newsOf.2.1 1 = .ok (.getfield 21, 3) := by decide +kernel
theorem eX6_newsOf_4 : decode mX6_newsOf.2.1 4 = .ok (.aload_n 0, 1) := by decide +kernel
theorem eX6_newsOf_5 : decode mX6_newsOf.2.1 5 = .ok (.getfield 16, 3) := by decide +kernel
theorem eX6_newsOf_8 : decode mX6_newsOf.2.1 8 = .ok (.invokevirtual 118, 3) := by decide +kernel
theorem eX6_newsOf_11 : decode mX6_newsOf.2.1 11 = .ok (.aload_n 0, 1) := by decide +kernel
theorem eX6_newsOf_12 : decode mX6_newsOf.2.1 12 = .ok (.iload_n 1, 1) := by decide +kernel
theorem eX6_newsOf_13 : decode mX6_newsOf.2.1 13 = .ok (.iconst 2, 1) := by decide +kernel
theorem eX6_newsOf_14 : decode mX6_newsOf.2.1 14 = .ok (.invokevirtual 122, 3) := by decide +kernel
theorem eX6_newsOf_17 : decode mX6_newsOf.2.1 17 = .ok (.istore_n 2, 1) := by decide +kernel
theorem eX6_newsOf_18 : decode mX6_newsOf.2.1 18 = .ok (.iload_n 2, 1) := by decide +kernel
theorem eX6_newsOf_19 : decode mX6_newsOf.2.1 19 = .ok (.bipush (-5), 2) := by decide +kernel
theorem eX6_newsOf_21 : decode mX6_newsOf.2.1 21 = .ok (.if_icmp .ne 8, 3) := by decide +kernel
theorem eX6_newsOf_24 : decode mX6_newsOf.2.1 24 = .ok (.bipush 61, 2) := by decide +kernel
theorem eX6_newsOf_26 : decode mX6_newsOf.2.1 26 = .ok (.goto 4, 3) := by decide +kernel
theorem eX6_newsOf_29 : decode mX6_newsOf.2.1 29 = .ok (.iload_n 2, 1) := by decide +kernel
theorem eX6_newsOf_30 : decode mX6_newsOf.2.1 30 = .ok (.istore_n 3, 1) := by decide +kernel
theorem eX6_newsOf_31 : decode mX6_newsOf.2.1 31 = .ok (.bipush (-5), 2) := by decide +kernel
theorem eX6_newsOf_33 : decode mX6_newsOf.2.1 33 = .ok (.istore 4, 2) := by decide +kernel
theorem eX6_newsOf_35 : decode mX6_newsOf.2.1 35 = .ok (.iconst 0, 1) := by decide +kernel
theorem eX6_newsOf_36 : decode mX6_newsOf.2.1 36 = .ok (.istore 5, 2) := by decide +kernel
theorem eX6_newsOf_38 : decode mX6_newsOf.2.1 38 = .ok (.iload 5, 2) := by decide +kernel
theorem eX6_newsOf_40 : decode mX6_newsOf.2.1 40 = .ok (.aload_n 0, 1) := by decide +kernel
theorem eX6_newsOf_41 : decode mX6_newsOf.2.1 41 = .ok (.getfield 16, 3) := by decide +kernel
theorem eX6_newsOf_44 : decode mX6_newsOf.2.1 44 = .ok (.getfield 78, 3) := by decide +kernel
theorem eX6_newsOf_47 : decode mX6_newsOf.2.1 47 = .ok (.if_icmp .ge 70, 3) := by decide +kernel
theorem eX6_newsOf_50 : decode mX6_newsOf.2.1 50 = .ok (.aload_n 0, 1) := by decide +kernel
theorem eX6_newsOf_51 : decode mX6_newsOf.2.1 51 = .ok (.getfield 16, 3) := by decide +kernel
theorem eX6_newsOf_54 : decode mX6_newsOf.2.1 54 = .ok (.getfield 99, 3) := by decide +kernel
theorem eX6_newsOf_57 : decode mX6_newsOf.2.1 57 = .ok (.iload 5, 2) := by decide +kernel
theorem eX6_newsOf_59 : decode mX6_newsOf.2.1 59 = .ok (.iaload, 1) := by decide +kernel
theorem eX6_newsOf_60 : decode mX6_newsOf.2.1 60 = .ok (.ifCond .ne 51, 3) := by decide +kernel
theorem eX6_newsOf_63 : decode mX6_newsOf.2.1 63 = .ok (.aload_n 0, 1) := by decide +kernel
theorem eX6_newsOf_64 : decode mX6_newsOf.2.1 64 = .ok (.getfield 21, 3) := by decide +kernel
theorem eX6_newsOf_67 : decode mX6_newsOf.2.1 67 = .ok (.aload_n 0, 1) := by decide +kernel
theorem eX6_newsOf_68 : decode mX6_newsOf.2.1 68 = .ok (.getfield 16, 3) := by decide +kernel
theorem eX6_newsOf_71 : decode mX6_newsOf.2.1 71 = .ok (.invokevirtual 118, 3) := by decide +kernel
theorem eX6_newsOf_74 : decode mX6_newsOf.2.1 74 = .ok (.aload_n 0, 1) := by decide +kernel
theorem eX6_newsOf_75 : decode mX6_newsOf.2.1 75 = .ok (.getfield 21, 3) := by decide +kernel
theorem eX6_newsOf_78 : decode mX6_newsOf.2.1 78 = .ok (.iload 5, 2) := by decide +kernel
theorem eX6_newsOf_80 : decode mX6_newsOf.2.1 80 = .ok (.invokevirtual 126, 3) := by decide +kernel
theorem eX6_newsOf_83 : decode mX6_newsOf.2.1 83 = .ok (.aload_n 0, 1) := by decide +kernel
theorem eX6_newsOf_84 : decode mX6_newsOf.2.1 84 = .ok (.iload_n 1, 1) := by decide +kernel
theorem eX6_newsOf_85 : decode mX6_newsOf.2.1 85 = .ok (.iconst 2, 1) := by decide +kernel
theorem eX6_newsOf_86 : decode mX6_newsOf.2.1 86 = .ok (.invokevirtual 122, 3) := by decide +kernel
theorem eX6_newsOf_89 : decode mX6_newsOf.2.1 89 = .ok (.istore 6, 2) := by decide +kernel
theorem eX6_newsOf_91 : decode mX6_newsOf.2.1 91 = .ok (.iload 6, 2) := by decide +kernel
theorem eX6_newsOf_93 : decode mX6_newsOf.2.1 93 = .ok (.bipush (-5), 2) := by decide +kernel
theorem eX6_newsOf_95 : decode mX6_newsOf.2.1 95 = .ok (.if_icmp .eq 16, 3) := by decide +kernel
theorem eX6_newsOf_98 : decode mX6_newsOf.2.1 98 = .ok (.iload 6, 2) := by decide +kernel
theorem eX6_newsOf_100 : decode mX6_newsOf.2.1 100 = .ok (.iload_n 3, 1) := by decide +kernel
theorem eX6_newsOf_101 : decode mX6_newsOf.2.1 101 = .ok (.if_icmp .ge 10, 3) := by decide +kernel
theorem eX6_newsOf_104 : decode mX6_newsOf.2.1 104 = .ok (.iload 6, 2) := by decide +kernel
theorem eX6_newsOf_106 : decode mX6_newsOf.2.1 106 = .ok (.istore_n 3, 1) := by decide +kernel
theorem eX6_newsOf_107 : decode mX6_newsOf.2.1 107 = .ok (.iload 5, 2) := by decide +kernel
theorem eX6_newsOf_109 : decode mX6_newsOf.2.1 109 = .ok (.istore 4, 2) := by decide +kernel
theorem eX6_newsOf_111 : decode mX6_newsOf.2.1 111 = .ok (.iinc 5 1, 3) := by decide +kernel
theorem eX6_newsOf_114 : decode mX6_newsOf.2.1 114 = .ok (.goto (-76), 3) := by decide +kernel
theorem eX6_newsOf_117 : decode mX6_newsOf.2.1 117 = .ok (.iload 4, 2) := by decide +kernel
theorem eX6_newsOf_119 : decode mX6_newsOf.2.1 119 = .ok (.ireturn, 1) := by decide +kernel
theorem lp_X6_newsOf (hg : gOk g m t) (hA : gAge g m t) (ht9 : t ≤ 20000) {i : Nat} (hi : i < 6) (hd : 7 ≤ d) {x2 : Int32} {h0 : Hp} (hQ : ∀ h', DT h' 27 (nI 2147483647) → Same 27 10 h0 h' → Q (some (.int (sNews F g m t i m).1)) h') : ∀ (j c : Nat) (y x4 x3 : Int32) (o6 : Option Value) (h : Hp), j = m - c → c ≤ m → y = nI c → x4 = (sNews F g m t i c).1 → x3 = lst (sNews F g m t i c).2 → OA h 16 (.inr (6, afs bi se)) → WF F h 17 g (nI 9999) → DT h 27 (nI 2147483647) → Same 27 10 h0 h → AW l G mX6_newsOf d 0 0 Q 0 0 h [some (.ref 16), some (.int (nI i)), some (.int x2), some (.int x3), some (.int x4), some (.int y), o6] [] 38 := by
  have hm6 := hg.2.1
  intro j
  induction j using Nat.strongRecOn with
  | _ j ih =>
    intro c y x4 x3 o6 h hj hc hy hx4 hx3 hO hN hT hs
    subst hy hx4 hx3
    refine aw_iload (pc' := 40) eX6_newsOf_38 rfl rfl ?_
    refine aw_aload_n (pc' := 41) eX6_newsOf_40 rfl rfl trivial ?_
    refine aw_Oget (pc' := 44) (ci := 6) (kf := 0) (N := 14) (.ref 17) hO eX6_newsOf_41 rfl rfl rfl inX6 (by decide) q250 rfl ?_
    refine aw_Fint (pc' := 47) (kf := 10) hN eX6_newsOf_44 rfl (by decide) q116 ?_
    refine aw_icmp_ge (pc' := 50) (tgt := 117) eX6_newsOf_47 rfl (by decide) (fun c_47 => ?_) (fun c_47 => ?_)
    · rw [gsc10, hg.1] at c_47
      have c9 := ge_nI (by omega) (by omega) c_47
      obtain rfl : c = m := by omega
      refine aw_iload (pc' := 119) eX6_newsOf_117 rfl rfl ?_
      refine aw_ret (v := some (.int _)) eX6_newsOf_119 ⟨rfl, rfl⟩ (by omega) (by omega) rfl ?_
      exact hQ _ hT hs
    · rw [gsc10, hg.1] at c_47
      have c9 := nge_nI (by omega) (by omega) c_47
      refine aw_aload_n (pc' := 51) eX6_newsOf_50 rfl rfl trivial ?_
      refine aw_Oget (pc' := 54) (ci := 6) (kf := 0) (N := 14) (.ref 17) hO eX6_newsOf_51 rfl rfl rfl inX6 (by decide) q250 rfl ?_
      refine aw_Fref (pc' := 57) (kf := 4) hN eX6_newsOf_54 rfl (by decide) q105 ?_
      refine aw_iload (pc' := 59) eX6_newsOf_57 rfl rfl ?_
      refine aw_Fld (pc' := 60) 4 3 c hN eX6_newsOf_59 rfl (by decide) rfl (show vp_in _ 6 from vp_in_nI (by omega) (by omega)) (nI_clamp (by omega)) ?_
      refine aw_if_ne (pc' := 63) (tgt := 111) eX6_newsOf_60 rfl (by decide) (fun c_60 => ?_) (fun c_60 => ?_)
      · refine aw_iinc (pc' := 114) eX6_newsOf_111 rfl rfl rfl (by decide) ?_
        dsimp only [zst, zst2, zcut]
        refine aw_goto eX6_newsOf_114 (by decide) (tgt := 38) ?_
        refine ih (m - (c + 1)) (by omega) (c + 1) _ _ _ _ _ rfl (by omega) (nI_inc c) ?_ ?_ hO hN hT hs
        · rw [sNews, if_neg c_60]
        · rw [sNews, if_neg c_60]
      · refine aw_aload_n (pc' := 64) eX6_newsOf_63 rfl rfl trivial ?_
        refine aw_Oget (pc' := 67) (ci := 6) (kf := 1) (N := 14) (.ref 27) hO eX6_newsOf_64 rfl rfl rfl inX6 (by decide) q251 rfl ?_
        refine aw_aload_n (pc' := 68) eX6_newsOf_67 rfl rfl trivial ?_
        refine aw_Oget (pc' := 71) (ci := 6) (kf := 0) (N := 14) (.ref 17) hO eX6_newsOf_68 rfl rfl rfl inX6 (by decide) q250 rfl ?_
        refine aw_callv (pc' := 74) (nn := 1) (c_X5_becomes (d := d - 1) hN hT (by omega) (by omega) (by omega)) eX6_newsOf_71 rfl ⟨q332, q335, q56⟩ q333 q334 ⟨rfl, by decide +kernel, by decide +kernel, by decide +kernel⟩ rfl hT.ob rfl ⟨by omega, by decide⟩ ⟨by omega, by omega⟩ rfl (Nat.le_of_ble_eq_true rfl) (fun v3 h4 hq5 => ?_)
        obtain ⟨rfl, hW1, hs2⟩ := hq5
        have hF6 := hO.fr hs2 (by omega)
        have hF7 := hN.fr hs2 (by omega)
        dsimp only [Option.toList, List.cons_append, List.nil_append]
        refine aw_aload_n (pc' := 75) eX6_newsOf_74 rfl rfl trivial ?_
        refine aw_Oget (pc' := 78) (ci := 6) (kf := 1) (N := 14) (.ref 27) hF6 eX6_newsOf_75 rfl rfl rfl inX6 (by decide) q251 rfl ?_
        refine aw_iload (pc' := 80) eX6_newsOf_78 rfl rfl ?_
        refine aw_callv (pc' := 83) (nn := 1) (c_X5_isTold (d := d - 1) hW1 (i := c) (by omega) (by omega)) eX6_newsOf_80 rfl ⟨q367, q370, q56⟩ q368 q369 ⟨rfl, by decide +kernel, by decide +kernel, by decide +kernel⟩ rfl hW1.ob rfl ⟨by omega, by decide⟩ ⟨by omega, by omega⟩ rfl (Nat.le_of_ble_eq_true rfl) (fun v10 h11 hq12 => ?_)
        obtain ⟨rfl, hW8, hs9⟩ := hq12
        rw [show upd (upd g (10 * c + 3) 1) (10 * c + 4) 0 = sSays g c from (if_pos c_60).symm] at hW8
        have hT13 := hs2.tr hs9
        have hF14 := hF6.fr hs9 (by omega)
        have hF15 := hF7.fr hs9 (by omega)
        dsimp only [Option.toList, List.cons_append, List.nil_append]
        refine aw_aload_n (pc' := 84) eX6_newsOf_83 rfl rfl trivial ?_
        refine aw_iload_n (pc' := 85) eX6_newsOf_84 rfl rfl ?_
        refine aw_iconst (pc' := 86) (v := 2) eX6_newsOf_85 rfl (by decide) ?_
        refine aw_callv (pc' := 89) (nn := 2) (c_X6_trialComes (d := d - 1) hF14 hW8 (gOk_of hg (sSays_hi2 (by omega) (by omega)) (sSays_hi2 (by omega) (by omega)) (sSays_hi2 (by omega) (by omega))) hA.says ht9 (i := i) hi 2 (by omega)) eX6_newsOf_86 rfl ⟨q342, q345, q55⟩ q344 q3 ⟨rfl, by decide +kernel, by decide +kernel, by decide +kernel⟩ rfl (by rw [hF14.1]; exact ⟨rfl, rfl⟩) rfl ⟨by omega, by decide⟩ ⟨by omega, by omega⟩ rfl (Nat.le_of_ble_eq_true rfl) (fun v18 h19 hq20 => ?_)
        obtain ⟨rfl, hW16, hs17⟩ := hq20
        have hT21 := hT13.tr hs17
        have hF22 := hF14.fr hs17 (by omega)
        have hF23 := hF15.fr hs17 (by omega)
        dsimp only [Option.toList, List.cons_append, List.nil_append]
        refine aw_istore (pc' := 91) eX6_newsOf_89 rfl (by decide) ?_
        dsimp only [zst, zst2, zcut]
        refine aw_iload (pc' := 93) eX6_newsOf_91 rfl rfl ?_
        refine aw_bipush (pc' := 95) (v := -5) eX6_newsOf_93 rfl (by decide) ?_
        refine aw_icmp_eq (pc' := 98) (tgt := 111) eX6_newsOf_95 rfl (by decide) (fun c_95 => ?_) (fun c_95 => ?_)
        · refine aw_iinc (pc' := 114) eX6_newsOf_111 rfl rfl rfl (by decide) ?_
          dsimp only [zst, zst2, zcut]
          refine aw_goto eX6_newsOf_114 (by decide) (tgt := 38) ?_
          have sb := (st_b (sCome F m 2 i 61 0 t (sSays g c)) sCome_D (sNews F g m t i c).2 (sNews_B c)).2
          have s1 := sb.2 (fun z => z.1 c_95)
          refine ih (m - (c + 1)) (by omega) (c + 1) _ _ _ _ _ rfl (by omega) (nI_inc c) ?_ ?_ hF22 hF23 hW16 (hs.tr hT21)
          · rw [sNews, if_pos c_60, if_neg s1.1]
          · rw [sNews, if_pos c_60]
            exact s1.2.symm
        · refine aw_iload (pc' := 100) eX6_newsOf_98 rfl rfl ?_
          refine aw_iload_n (pc' := 101) eX6_newsOf_100 rfl rfl ?_
          refine aw_icmp_ge (pc' := 104) (tgt := 111) eX6_newsOf_101 rfl (by decide) (fun c_101 => ?_) (fun c_101 => ?_)
          · refine aw_iinc (pc' := 114) eX6_newsOf_111 rfl rfl rfl (by decide) ?_
            dsimp only [zst, zst2, zcut]
            refine aw_goto eX6_newsOf_114 (by decide) (tgt := 38) ?_
            have sb := (st_b (sCome F m 2 i 61 0 t (sSays g c)) sCome_D (sNews F g m t i c).2 (sNews_B c)).2
            have s1 := sb.2 (fun z => absurd z.2 (Int32.not_lt.mpr c_101))
            refine ih (m - (c + 1)) (by omega) (c + 1) _ _ _ _ _ rfl (by omega) (nI_inc c) ?_ ?_ hF22 hF23 hW16 (hs.tr hT21)
            · rw [sNews, if_pos c_60, if_neg s1.1]
            · rw [sNews, if_pos c_60]
              exact s1.2.symm
          · refine aw_iload (pc' := 106) eX6_newsOf_104 rfl rfl ?_
            refine aw_istore_n (pc' := 107) eX6_newsOf_106 rfl (by decide) ?_
            dsimp only [zst, zst2, zcut]
            refine aw_iload (pc' := 109) eX6_newsOf_107 rfl rfl ?_
            refine aw_istore (pc' := 111) eX6_newsOf_109 rfl (by decide) ?_
            dsimp only [zst, zst2, zcut]
            refine aw_iinc (pc' := 114) eX6_newsOf_111 rfl rfl rfl (by decide) ?_
            dsimp only [zst, zst2, zcut]
            refine aw_goto eX6_newsOf_114 (by decide) (tgt := 38) ?_
            have sb := (st_b (sCome F m 2 i 61 0 t (sSays g c)) sCome_D (sNews F g m t i c).2 (sNews_B c)).2
            have s1 := sb.1 ⟨c_95, Int32.not_le.mp c_101⟩
            refine ih (m - (c + 1)) (by omega) (c + 1) _ _ _ _ _ rfl (by omega) (nI_inc c) ?_ ?_ hF22 hF23 hW16 (hs.tr hT21)
            · rw [sNews, if_pos c_60, if_pos s1.1]
            · rw [sNews, if_pos c_60]
              exact s1.2.symm
theorem c_X6_newsOf (hO : OA h 16 (.inr (6, afs bi se))) (hN : WF F h 17 g (nI 9999)) (hT : DT h 27 (nI 2147483647)) (hg : gOk g m t) (hA : gAge g m t) (ht9 : t ≤ 20000) {i : Nat} (hi : i < 6) (hd : 7 ≤ d) : Ct l G mX6_newsOf yX6_newsOf d 0 0 [.ref 16, .int (nI i)] h (fun r h' => r = some (.int (sNews F g m t i m).1) ∧ DT h' 27 (nI 2147483647) ∧ Same 27 10 h h') := by
  refine ct_of (lv := [some (.ref 16), some (.int (nI i)), none, none, none, none, none]) (by decide +kernel) rfl (fun z => by cases z) (fun _ => rfl) (fun _ => Nat.le_of_ble_eq_true rfl) ?_
  refine aw_aload_n (pc' := 1) eX6_newsOf_0 rfl rfl trivial ?_
  refine aw_Oget (pc' := 4) (ci := 6) (kf := 1) (N := 14) (.ref 27) hO eX6_newsOf_1 rfl rfl rfl inX6 (by decide) q251 rfl ?_
  refine aw_aload_n (pc' := 5) eX6_newsOf_4 rfl rfl trivial ?_
  refine aw_Oget (pc' := 8) (ci := 6) (kf := 0) (N := 14) (.ref 17) hO eX6_newsOf_5 rfl rfl rfl inX6 (by decide) q250 rfl ?_
  refine aw_callv (pc' := 11) (nn := 1) (c_X5_becomes (d := d - 1) hN hT (by omega) (by omega) (by omega)) eX6_newsOf_8 rfl ⟨q332, q335, q56⟩ q333 q334 ⟨rfl, by decide +kernel, by decide +kernel, by decide +kernel⟩ rfl hT.ob rfl ⟨by omega, by decide⟩ ⟨by omega, by omega⟩ rfl (Nat.le_of_ble_eq_true rfl) (fun v3 h4 hq5 => ?_)
  obtain ⟨rfl, hW1, hs2⟩ := hq5
  have hF6 := hO.fr hs2 (by omega)
  have hF7 := hN.fr hs2 (by omega)
  dsimp only [Option.toList, List.cons_append, List.nil_append]
  refine aw_aload_n (pc' := 12) eX6_newsOf_11 rfl rfl trivial ?_
  refine aw_iload_n (pc' := 13) eX6_newsOf_12 rfl rfl ?_
  refine aw_iconst (pc' := 14) (v := 2) eX6_newsOf_13 rfl (by decide) ?_
  refine aw_callv (pc' := 17) (nn := 2) (c_X6_trialComes (d := d - 1) hF6 hW1 hg hA ht9 (i := i) hi 2 (by omega)) eX6_newsOf_14 rfl ⟨q342, q345, q55⟩ q344 q3 ⟨rfl, by decide +kernel, by decide +kernel, by decide +kernel⟩ rfl (by rw [hF6.1]; exact ⟨rfl, rfl⟩) rfl ⟨by omega, by decide⟩ ⟨by omega, by omega⟩ rfl (Nat.le_of_ble_eq_true rfl) (fun v10 h11 hq12 => ?_)
  obtain ⟨rfl, hW8, hs9⟩ := hq12
  have hT13 := hs2.tr hs9
  have hF14 := hF6.fr hs9 (by omega)
  have hF15 := hF7.fr hs9 (by omega)
  dsimp only [Option.toList, List.cons_append, List.nil_append]
  refine aw_istore_n (pc' := 18) eX6_newsOf_17 rfl (by decide) ?_
  dsimp only [zst, zst2, zcut]
  refine aw_iload_n (pc' := 19) eX6_newsOf_18 rfl rfl ?_
  refine aw_bipush (pc' := 21) (v := -5) eX6_newsOf_19 rfl (by decide) ?_
  refine aw_icmp_ne (pc' := 24) (tgt := 29) eX6_newsOf_21 rfl (by decide) (fun c_21 => ?_) (fun c_21 => ?_)
  · refine aw_iload_n (pc' := 30) eX6_newsOf_29 rfl rfl ?_
    refine aw_istore_n (pc' := 31) eX6_newsOf_30 rfl (by decide) ?_
    dsimp only [zst, zst2, zcut]
    refine aw_bipush (pc' := 33) (v := -5) eX6_newsOf_31 rfl (by decide) ?_
    refine aw_istore (pc' := 35) eX6_newsOf_33 rfl (by decide) ?_
    dsimp only [zst, zst2, zcut]
    refine aw_iconst (pc' := 36) (v := 0) eX6_newsOf_35 rfl (by decide) ?_
    refine aw_istore (pc' := 38) eX6_newsOf_36 rfl (by decide) ?_
    dsimp only [zst, zst2, zcut]
    exact lp_X6_newsOf hg hA ht9 hi hd (fun h' a b => ⟨rfl, a, b⟩) m 0 _ _ _ _ _ (by omega) (by omega) rfl rfl (by rw [sNews, ← (st_0 (sCome F m 2 i 61 0 t g) sCome_D).2, if_neg c_21]) hF14 hF15 hW8 hT13
  · refine aw_bipush (pc' := 26) (v := 61) eX6_newsOf_24 rfl (by decide) ?_
    refine aw_goto eX6_newsOf_26 (by decide) (tgt := 30) ?_
    refine aw_istore_n (pc' := 31) eX6_newsOf_30 rfl (by decide) ?_
    dsimp only [zst, zst2, zcut]
    refine aw_bipush (pc' := 33) (v := -5) eX6_newsOf_31 rfl (by decide) ?_
    refine aw_istore (pc' := 35) eX6_newsOf_33 rfl (by decide) ?_
    dsimp only [zst, zst2, zcut]
    refine aw_iconst (pc' := 36) (v := 0) eX6_newsOf_35 rfl (by decide) ?_
    refine aw_istore (pc' := 38) eX6_newsOf_36 rfl (by decide) ?_
    dsimp only [zst, zst2, zcut]
    exact lp_X6_newsOf hg hA ht9 hi hd (fun h' a b => ⟨rfl, a, b⟩) m 0 _ _ _ _ _ (by omega) (by omega) rfl rfl (by rw [sNews, ← (st_0 (sCome F m 2 i 61 0 t g) sCome_D).2, if_pos c_21]) hF14 hF15 hW8 hT13
end C14
