/-! the class: numbers, steps, a test -/
section C9
variable {l : Launch} {G : GT} {M : MT} {e n d mc ms k m pc pc' : Nat} {h : Hp} {Q : Option Value → Hp → Prop} {lv : LV} {st : List Value} {R : Nat → Int32} {a : Nat} {b : Bool} {ss : List Int32} {r : Int32}
def nd1 (R : Nat → Int32) (n : Nat) (x : Int32) (a : Nat) (b : Bool) : Int32 × PP := if pDg R n (a, b) = true then (x * 10 + R a - 48, (a + 1, b)) else (x, (a, b))
def nd0 (R : Nat → Int32) (n : Nat) (a : Nat) (b : Bool) : Int32 × PP := if pDg R n (a, b) = true then nd1 R n (0 * 10 + R a - 48) (a + 1) b else (0, (a, false))
theorem nd0_eq : nd0 R n a b = pNum R n (a, b) := by
  unfold nd0 nd1 pNum
  split
  · split
    · show ((0 * 10 + R a - 48) * 10 + R (a + 1) - 48, (a + 2, b)) = (10 * (R a - 48) + R (a + 1) - 48, (a + 2, b))
      rw [Int32.zero_mul, Int32.zero_add, Int32.mul_comm]
    · show (0 * 10 + R a - 48, (a + 1, b)) = (R a - 48, (a + 1, b))
      rw [Int32.zero_mul, Int32.zero_add]
  · rfl
theorem dg_t (hA : RA R n) (hb : b = true) (h1 : ¬ sg R n a < 48) (h2 : ¬ sg R n a > 57) : pDg R n (a, b) = true ∧ sg R n a = R a ∧ a < n := by
  rcases sg_or hA a with ⟨e1, e2⟩ | ⟨c', h3, e1, e2, e3⟩
  · rw [e1] at h1; exact absurd (by decide) h1
  · refine ⟨?_, by rw [e1, e2], e3⟩
    rw [e1] at h1 h2
    unfold pDg
    rw [hb, e2]
    simp [e3, Int32.not_lt.mp h1, Int32.not_lt.mp h2]
theorem dg_f (hA : RA R n) (h1 : b = false ∨ sg R n a < 48 ∨ sg R n a > 57) : pDg R n (a, b) = false := by
  rcases h1 with rfl | h1
  · simp [pDg]
  · unfold pDg
    rcases sg_or hA a with ⟨e1, e2⟩ | ⟨c', h3, e1, e2, e3⟩
    · simp [e2]
    · rw [e1, ← e2] at h1
      rcases h1 with h1 | h1
      · simp [Int32.not_le.mpr h1]
      · simp [Int32.not_le.mpr (show (57 : Int32) < R a from h1)]
theorem dg_v : ∀ x ∈ List.range 128, (48 : Int32) ≤ nI x → nI x ≤ 57 → x < 58 ∧ 48 ≤ x := by decide +kernel
theorem dg_1 : ∀ x ∈ List.range 58, 48 ≤ x → nI x - 48 = nI (x - 48) := by decide +kernel
theorem dg_2 : ∀ x ∈ List.range 58, ∀ y ∈ List.range 58, 48 ≤ x → 48 ≤ y → 10 * (nI x - 48) + nI y - 48 = nI (10 * (x - 48) + (y - 48)) := by decide +kernel
theorem pDg_c (hA : RA R n) {p : PP} (hp : pDg R n p = true) : ∃ x, x < 58 ∧ 48 ≤ x ∧ R p.1 = nI x := by
  have hl := pDg_lt hp
  obtain ⟨c, h1, h2⟩ := hA p.1 hl
  simp [pDg] at hp
  rw [h2] at hp
  have z := dg_v c (List.mem_range.mpr h1) hp.1.2 hp.2
  exact ⟨c, z.1, z.2, h2⟩
theorem pNum_v (hA : RA R n) {p : PP} (hp : (pNum R n p).2.2 = true) : ∃ x, x < 100 ∧ (pNum R n p).1 = nI x := by
  unfold pNum at hp ⊢
  by_cases c1 : pDg R n p = true
  · obtain ⟨x, x1, x2, x3⟩ := pDg_c hA c1
    rw [if_pos c1]
    by_cases c2 : pDg R n (p.1 + 1, p.2) = true
    · obtain ⟨y, y1, y2, y3⟩ := pDg_c hA c2
      rw [if_pos c2]
      refine ⟨10 * (x - 48) + (y - 48), by omega, ?_⟩
      show 10 * (R p.1 - 48) + R (p.1 + 1) - 48 = _
      rw [x3, show R (p.1 + 1) = nI y from y3]
      exact dg_2 x (List.mem_range.mpr x1) y (List.mem_range.mpr y1) x2 y2
    · rw [if_neg c2]
      refine ⟨x - 48, by omega, ?_⟩
      show R p.1 - 48 = _
      rw [x3]
      exact dg_1 x (List.mem_range.mpr x1) x2
  · rw [if_neg c1] at hp
    exact absurd hp (by simp)
/-- steps with one more behind them -/
def RdX (h : Hp) (e n : Nat) (R : Nat → Int32) (a : Nat) (b : Bool) (ss : List Int32) (r : Int32) (x : Int32) : Prop := RdAt h e n R a b ss r ∧ ∃ f, OA h (e + 2) (.inl (0, (100, .inl f))) ∧ (∀ i, i < ss.length → f i = ss.getD i 0) ∧ f ss.length = x
theorem aw_Rss {i x : Int32} (hR : RdAt h e n R a b ss r) (hd : decode M.2.1 pc = .ok (.iastore, 1)) (hn : pc + 1 = pc') (hl : i = nI ss.length ∧ ss.length < 100)
    (kk : ∀ h', RdX h' e n R a b ss r x → Same e 3 h h' → AW l G M d mc ms Q k m h' lv st pc') : AW l G M d mc ms Q k m h lv (.int x :: .int i :: .ref (e + 2) :: st) pc := by
  obtain ⟨h1, ⟨T, h2, h3⟩, f, h4, h5⟩ := hR
  obtain ⟨rfl, hl⟩ := hl
  refine aw_Ais ss.length h4 hd hn (vp_in_nI hl (by omega)) (nI_clamp (by omega)) fun h' hO hs => ?_
  have hf : ∀ i, i < ss.length → upd f ss.length x i = ss.getD i 0 := fun i hi => by rw [upd_ne (by omega)]; exact h5 i hi
  exact kk h' ⟨⟨h1.fr hs (by omega), ⟨T, h2.fr hs (by omega), h3⟩, _, hO, hf⟩, _, hO, hf, upd_eq _ _ _⟩ (hs.w (by omega) (by omega))
theorem aw_Rsn {idx : Nat} {x y : Int32} (hR : RdX h e n R a b ss r y) (hd : decode M.2.1 pc = .ok (.putfield idx, 3)) (hn : pc + 3 = pc') (hw : Cond.fieldLink M.1 idx (TX0 5).1 (TX0 5).2.1 (TX0 5).2.2.1 ∈ TB) (hx : x = nI (ss.length + 1))
    (kk : ∀ h', RdAt h' e n R a b (ss ++ [y]) r → Same e 3 h h' → AW l G M d mc ms Q k m h' lv st pc') : AW l G M d mc ms Q k m h lv (.int x :: .ref e :: st) pc := by
  obtain ⟨⟨h1, ⟨T, h2, h3⟩, -⟩, f, h4, h5, h6⟩ := hR
  refine aw_Oput (ci := 0) (kf := 5) (N := 7) (ty0 := tyX0) _ h1 hd hn rfl rfl inX0 tyX0_ok nmX0 (by decide) hw rfl trivial rfl fun h' hO hs => kk h' ⟨?_, ⟨T, h2.fr hs (by omega), h3⟩, f, h4.fr hs (by omega), fun i hi => ?_⟩ (hs.w (by omega) (by omega))
  · rw [List.length_append, List.length_singleton, ← hx]
    exact hO
  · rw [List.length_append, List.length_singleton] at hi
    by_cases c : i < ss.length
    · rw [h5 i c]
      simp [List.getD, List.getElem?_append_left c]
    · have : i = ss.length := by omega
      subst this
      rw [h6]
      simp [List.getD]
theorem ix_nm (hb : b = true) (ha : a < n) : pNm R n mLe (a, b) 6 = ixF (R a) 6 := by
  have e : ∀ c, pAt R n (a, b) c = decide (R a = c) := fun c => by simp [pAt, ha, hb]
  simp only [pNm, e, decide_eq_true_eq]
  generalize R a = x
  by_cases h0 : x = 112
  · subst h0; decide
  · by_cases h1 : x = 107
    · subst h1; decide
    · by_cases h2 : x = 118
      · subst h2; decide
      · by_cases h3 : x = 119
        · subst h3; decide
        · by_cases h4 : x = 97
          · subst h4; decide
          · by_cases h5 : x = 100
            · subst h5; decide
            · rw [if_neg (show ¬ x = mLe 5 from h5), if_neg (show ¬ x = mLe 4 from h4), if_neg (show ¬ x = mLe 3 from h3), if_neg (show ¬ x = mLe 2 from h2), if_neg (show ¬ x = mLe 1 from h1), if_neg (show ¬ x = mLe 0 from h0)]
              show (-1 : Int32) = if (112 : Int32) = x then nI 0 else if (107 : Int32) = x then nI 1 else if (118 : Int32) = x then nI 2 else if (119 : Int32) = x then nI 3 else if (97 : Int32) = x then nI 4 else if (100 : Int32) = x then nI 5 else -1
              rw [if_neg (fun z => h0 z.symm), if_neg (fun z => h1 z.symm), if_neg (fun z => h2 z.symm), if_neg (fun z => h3 z.symm), if_neg (fun z => h4 z.symm), if_neg (fun z => h5 z.symm)]
theorem ixF_or (x : Int32) : ∀ k, k ≤ 6 → ixF x k = -1 ∨ ∃ j, j < 6 ∧ ixF x k = nI j
  | 0, _ => Or.inl rfl
  | k + 1, h => by
    rw [ixF]
    split
    · exact Or.inr ⟨6 - (k + 1), by omega, rfl⟩
    · exact ixF_or x k (by omega)
theorem sg3_b : ∀ k ∈ List.range 128, ¬ nI k - 60 < 0 → nI k - 60 ≤ 2 → k = 60 ∨ k = 61 ∨ k = 62 := by decide +kernel
theorem sg3 (hA : RA R n) (h1 : ¬ sg R n a - 60 < 0) (h2 : sg R n a - 60 ≤ 2) : a < n ∧ (R a = 60 ∨ R a = 61 ∨ R a = 62) ∧ sg R n a = R a := by
  rcases sg_or hA a with ⟨e1, e2⟩ | ⟨c', h3, e1, e2, e3⟩
  · rw [e1] at h1; exact absurd (by decide) h1
  · rw [e1] at h1 h2
    refine ⟨e3, ?_, by rw [e1, e2]⟩
    rw [e2]
    rcases sg3_b c' (List.mem_range.mpr h3) h1 h2 with rfl | rfl | rfl
    · exact Or.inl rfl
    · exact Or.inr (Or.inl rfl)
    · exact Or.inr (Or.inr rfl)
theorem sg3n (hA : RA R n) (hz : sg R n a - 60 < 0 ∨ ¬ sg R n a - 60 ≤ 2) {p : PP} (hp : p = (a, b)) : pAt R n p 60 = false ∧ pAt R n p 61 = false ∧ pAt R n p 62 = false := by
  subst hp
  have z : ∀ c : Nat, c < 128 → (c = 60 ∨ c = 61 ∨ c = 62) → pAt R n (a, b) (nI c) = false := fun c hc h3 => by
    rw [sg_at hA hc]
    have : ¬ sg R n a = nI c := fun y => by
      rw [y] at hz
      rcases h3 with rfl | rfl | rfl
      · revert hz; decide
      · revert hz; decide
      · revert hz; decide
    rw [decide_eq_false this, Bool.and_false]
  exact ⟨z 60 (by omega) (by omega), z 61 (by omega) (by omega), z 62 (by omega) (by omega)⟩
/-- a call's steps: no more than the bytes it took, and worth B, where it fits -/
def SO (ss ss' : List Int32) (a a' : Nat) (b' : Bool) (B : (Nat → Int32) → Bool) (w : Nat) : Prop := ss'.length + a ≤ a' + ss.length ∧ (b' = true → ∃ c, ss' = ss ++ c ∧ Ev c B w)

abbrev mX0_takes : MT := (RX0, cX0_takes, 2, (some .int), false)
theorem eX0_takes_0 : decode mX0_takes.2.1 0 = .ok (.aload_n 0, 1) := by decide +kernel
theorem eX0_takes_1 : decode mX0_takes.2.1 1 = .ok (.getfield 19, 3) := by decide +kernel
theorem eX0_takes_4 : decode mX0_takes.2.1 4 = .ok (.bipush 100, 2) := by decide +kernel
theorem eX0_takes_6 : decode mX0_takes.2.1 6 = .ok (.if_icmp .lt 6, 3) := by decide +kernel
theorem eX0_takes_9 : decode mX0_takes.2.1 9 = .ok (.bipush (-4), 2) := by decide +kernel
theorem eX0_takes_11 : decode mX0_takes.2.1 11 = .ok (.ireturn, 1) := by decide +kernel
theorem eX0_takes_12 : decode mX0_takes.2.1 12 = .ok (.aload_n 0, 1) := by decide +kernel
theorem eX0_takes_13 : decode mX0_takes.2.1 13 = .ok (.getfield 9, 3) := by decide +kernel
theorem eX0_takes_16 : decode mX0_takes.2.1 16 = .ok (.aload_n 0, 1) := by decide +kernel
theorem eX0_takes_17 : decode mX0_takes.2.1 17 = .ok (.getfield 19, 3) := by decide +kernel
theorem eX0_takes_20 : decode mX0_takes.2.1 20 = .ok (.iload_n 1, 1) := by decide +kernel
theorem eX0_takes_21 : decode mX0_takes.2.1 21 = .ok (.i2b, 1) := by decide +kernel
theorem eX0_takes_22 : decode mX0_takes.2.1 22 = .ok (.bastore, 1) := by decide +kernel
theorem eX0_takes_23 : decode mX0_takes.2.1 23 = .ok (.aload_n 0, 1) := by decide +kernel
theorem eX0_takes_24 : decode mX0_takes.2.1 24 = .ok (.dup, 1) := by decide +kernel
theorem eX0_takes_25 : decode mX0_takes.2.1 25 = .ok (.getfield 19, 3) := by decide +kernel
theorem eX0_takes_28 : decode mX0_takes.2.1 28 = .ok (.iconst 1, 1) := by decide +kernel
theorem eX0_takes_29 : decode mX0_takes.2.1 29 = .ok (.iadd, 1) := by decide +kernel
theorem eX0_takes_30 : decode mX0_takes.2.1 30 = .ok (.putfield 19, 3) := by decide +kernel
theorem eX0_takes_33 : decode mX0_takes.2.1 33 = .ok (.aload_n 0, 1) := by decide +kernel
theorem eX0_takes_34 : decode mX0_takes.2.1 34 = .ok (.getfield 19, 3) := by decide +kernel
theorem eX0_takes_37 : decode mX0_takes.2.1 37 = .ok (.ireturn, 1) := by decide +kernel
theorem f_X0_takes (hR : RdAt h e 100 R a b ss r) (x : Int32) (hd : 0 ≤ d) : Ct l G mX0_takes yX0_takes d 0 0 [.ref e, .int x] h (fun v h' => v = some (.int (-4)) ∧ h' = h) := by
  refine ct_of (lv := [some (.ref e), some (.int x)]) (by decide +kernel) rfl (fun z => by cases z) (fun _ => rfl) (fun _ => Nat.le_of_ble_eq_true rfl) ?_
  refine aw_aload_n (pc' := 1) eX0_takes_0 rfl rfl trivial ?_
  refine aw_Oget (pc' := 4) (ci := 0) (kf := 2) (N := 7) (.int (nI 100)) (hR).1 eX0_takes_1 rfl rfl rfl inX0 (by decide) q184 rfl ?_
  refine aw_bipush (pc' := 6) (v := 100) eX0_takes_4 rfl (by decide) ?_
  refine aw_icmp_lt (pc' := 9) (tgt := 12) eX0_takes_6 rfl (by decide) (fun c_6 => ?_) (fun c_6 => ?_)
  · exact absurd ((nI_ltI (b := 100) (by omega) (by omega)).mp c_6) (by omega)
  · refine aw_bipush (pc' := 11) (v := -4) eX0_takes_9 rfl (by decide) ?_
    refine aw_ret (v := some (.int _)) eX0_takes_11 ⟨rfl, rfl⟩ (by omega) (by omega) rfl ?_
    exact ⟨rfl, rfl⟩
theorem c_X0_takes (hR : RdAt h e n R a b ss r) (hn : n < 100) {k : Nat} (hk : k < 128) (hd : 0 ≤ d) : Ct l G mX0_takes yX0_takes d 0 0 [.ref e, .int (nI k)] h (fun v h' => v = some (.int (nI (n + 1))) ∧ RdAt h' e (n + 1) (upd R n (nI k)) a b ss r ∧ Same e 3 h h') := by
  refine ct_of (lv := [some (.ref e), some (.int (nI k))]) (by decide +kernel) rfl (fun z => by cases z) (fun _ => rfl) (fun _ => Nat.le_of_ble_eq_true rfl) ?_
  obtain ⟨g1, ⟨T, g2, g3⟩, f, g4, g5⟩ := hR
  refine aw_aload_n (pc' := 1) eX0_takes_0 rfl rfl trivial ?_
  refine aw_Oget (pc' := 4) (ci := 0) (kf := 2) (N := 7) (.int (nI n)) g1 eX0_takes_1 rfl rfl rfl inX0 (by decide) q184 rfl ?_
  refine aw_bipush (pc' := 6) (v := 100) eX0_takes_4 rfl (by decide) ?_
  refine aw_icmp_lt (pc' := 9) (tgt := 12) eX0_takes_6 rfl (by decide) (fun c_6 => ?_) (fun c_6 => ?_)
  · refine aw_aload_n (pc' := 13) eX0_takes_12 rfl rfl trivial ?_
    refine aw_Oget (pc' := 16) (ci := 0) (kf := 0) (N := 7) (.ref (e + 1)) g1 eX0_takes_13 rfl rfl rfl inX0 (by decide) q182 rfl ?_
    refine aw_aload_n (pc' := 17) eX0_takes_16 rfl rfl trivial ?_
    refine aw_Oget (pc' := 20) (ci := 0) (kf := 2) (N := 7) (.int (nI n)) g1 eX0_takes_17 rfl rfl rfl inX0 (by decide) q184 rfl ?_
    refine aw_iload_n (pc' := 21) eX0_takes_20 rfl rfl ?_
    refine aw_i2b (pc' := 22) eX0_takes_21 rfl ?_
    rw [asc8 hk]
    refine aw_Abs (pc' := 23) n g2 eX0_takes_22 rfl (vp_in_nI (by omega) (by omega)) (nI_clamp (by omega)) (fun h3 hA1 hs2 => ?_)
    have hz4 := hs2.w (w2 := e) (n2 := 3) (by omega) (by omega)
    have hF5 := g1.fr hs2 (by omega)
    have hF6 := g4.fr hs2 (by omega)
    refine aw_aload_n (pc' := 24) eX0_takes_23 rfl rfl trivial ?_
    refine aw_dup (pc' := 25) eX0_takes_24 rfl rfl ?_
    refine aw_Oget (pc' := 28) (ci := 0) (kf := 2) (N := 7) (.int (nI n)) hF5 eX0_takes_25 rfl rfl rfl inX0 (by decide) q184 rfl ?_
    refine aw_iconst (pc' := 29) (v := 1) eX0_takes_28 rfl (by decide) ?_
    refine aw_iadd (pc' := 30) eX0_takes_29 rfl ?_
    refine aw_Oput (pc' := 33) (ci := 0) (kf := 2) (N := 7) (ty0 := tyX0) [.ref (e + 1), .ref (e + 2), .int (nI n + 1), .int (nI a), .int (zb b), .int (nI ss.length), .int r] hF5 eX0_takes_30 rfl rfl rfl inX0 tyX0_ok nmX0 (by decide) q184 rfl trivial rfl (fun h9 hO7 hs8 => ?_)
    have hz10 := hs8.w (w2 := e) (n2 := 3) (by omega) (by omega)
    have hT11 := hz4.tr hz10
    have hF12 := hA1.fr hs8 (by omega)
    have hF13 := hF6.fr hs8 (by omega)
    refine aw_aload_n (pc' := 34) eX0_takes_33 rfl rfl trivial ?_
    refine aw_Oget (pc' := 37) (ci := 0) (kf := 2) (N := 7) (.int (nI n + 1)) hO7 eX0_takes_34 rfl rfl rfl inX0 (by decide) q184 rfl ?_
    refine aw_ret (v := some (.int _)) eX0_takes_37 ⟨rfl, rfl⟩ (by omega) (by omega) rfl ?_
    refine ⟨by rw [show nI n + 1 = nI (n + 1) from nI_1 n], ⟨?_, ⟨_, hF12, fun i hi => ?_⟩, f, hF13, g5⟩, hT11⟩
    · have z := hO7
      rw [show nI n + 1 = nI (n + 1) from nI_1 n] at z
      exact z
    · rw [upd_if, upd_if]
      by_cases c : i = n
      · rw [if_pos c, if_pos c]
        exact asc8 hk
      · rw [if_neg c, if_neg c]
        exact g3 i (by omega)
  · exact absurd ((nI_ltI (b := 100) (by omega) (by omega)).mpr hn) c_6
abbrev mX0_number : MT := (RX0, cX0_number, 3, (some .int), false)
theorem eX0_number_0 : decode mX0_number.2.1 0 = .ok (.iconst 0, 1) := by decide +kernel
theorem eX0_number_1 : decode mX0_number.2.1 1 = .ok (.istore_n 1, 1) := by decide +kernel
theorem eX0_number_2 : decode mX0_number.2.1 2 = .ok (.iconst 0, 1) := by decide +kernel
theorem eX0_number_3 : decode mX0_number.2.1 3 = .ok (.istore_n 2, 1) := by decide +kernel
theorem eX0_number_4 : decode mX0_number.2.1 4 = .ok (.iload_n 2, 1) := by decide +kernel
theorem eX0_number_5 : decode mX0_number.2.1 5 = .ok (.iconst 2, 1) := by decide +kernel
theorem eX0_number_6 : decode mX0_number.2.1 6 = .ok (.if_icmp .ge 57, 3) := by decide +kernel
theorem eX0_number_9 : decode mX0_number.2.1 9 = .ok (.aload_n 0, 1) := by decide +kernel
theorem eX0_number_10 : decode mX0_number.2.1 10 = .ok (.getfield 26, 3) := by decide +kernel
theorem eX0_number_13 : decode mX0_number.2.1 13 = .ok (.ifCond .eq 50, 3) := by decide +kernel
theorem eX0_number_16 : decode mX0_number.2.1 16 = .ok (.aload_n 0, 1) := by decide +kernel
theorem eX0_number_17 : decode mX0_number.2.1 17 = .ok (.invokevirtual 39, 3) := by decide +kernel
theorem eX0_number_20 : decode mX0_number.2.1 20 = .ok (.bipush 48, 2) := by decide +kernel
theorem eX0_number_22 : decode mX0_number.2.1 22 = .ok (.if_icmp .lt 41, 3) := by decide +kernel
theorem eX0_number_25 : decode mX0_number.2.1 25 = .ok (.aload_n 0, 1) := by decide +kernel
theorem eX0_number_26 : decode mX0_number.2.1 26 = .ok (.invokevirtual 39, 3) := by decide +kernel
theorem eX0_number_29 : decode mX0_number.2.1 29 = .ok (.bipush 57, 2) := by decide +kernel
theorem eX0_number_31 : decode mX0_number.2.1 31 = .ok (.if_icmp .gt 32, 3) := by decide +kernel
theorem eX0_number_34 : decode mX0_number.2.1 34 = .ok (.iload_n 1, 1) := by decide +kernel
theorem eX0_number_35 : decode mX0_number.2.1 35 = .ok (.bipush 10, 2) := by decide +kernel
theorem eX0_number_37 : decode mX0_number.2.1 37 = .ok (.imul, 1) := by decide +kernel
theorem eX0_number_38 : decode mX0_number.2.1 38 = .ok (.aload_n 0, 1) := by decide +kernel
theorem eX0_number_39 : decode mX0_number.2.1 39 = .ok (.invokevirtual 39, 3) := by decide +kernel
theorem eX0_number_42 : decode mX0_number.2.1 42 = .ok (.iadd, 1) := by decide +kernel
theorem eX0_number_43 : decode mX0_number.2.1 43 = .ok (.bipush 48, 2) := by decide +kernel
theorem eX0_number_45 : decode mX0_number.2.1 45 = .ok (.isub, 1) := by decide +kernel
theorem eX0_number_46 : decode mX0_number.2.1 46 = .ok (.istore_n 1, 1) := by decide +kernel
theorem eX0_number_47 : decode mX0_number.2.1 47 = .ok (.aload_n 0, 1) := by decide +kernel
theorem eX0_number_48 : decode mX0_number.2.1 48 = .ok (.dup, 1) := by decide +kernel
theorem eX0_number_49 : decode mX0_number.2.1 49 = .ok (.getfield 23, 3) := by decide +kernel
theorem eX0_number_52 : decode mX0_number.2.1 52 = .ok (.iconst 1, 1) := by decide +kernel
theorem eX0_number_53 : decode mX0_number.2.1 53 = .ok (.iadd, 1) := by decide +kernel
theorem eX0_number_54 : decode mX0_number.2.1 54 = .ok (.putfield 23, 3) := by decide +kernel
theorem eX0_number_57 : decode mX0_number.2.1 57 = .ok (.iinc 2 1, 3) := by decide +kernel
theorem eX0_number_60 : decode mX0_number.2.1 60 = .ok (.goto (-56), 3) := by decide +kernel
theorem eX0_number_63 : decode mX0_number.2.1 63 = .ok (.aload_n 0, 1) := by decide +kernel
theorem eX0_number_64 : decode mX0_number.2.1 64 = .ok (.aload_n 0, 1) := by decide +kernel
theorem eX0_number_65 : decode mX0_number.2.1 65 = .ok (.getfield 26, 3) := by decide +kernel
theorem eX0_number_68 : decode mX0_number.2.1 68 = .ok (.ifCond .eq 11, 3) := by decide +kernel
theorem eX0_number_71 : decode mX0_number.2.1 71 = .ok (.iload_n 2, 1) := by decide +kernel
theorem eX0_number_72 : decode mX0_number.2.1 72 = .ok (.ifCond .le 7, 3) := by decide +kernel
theorem eX0_number_75 : decode mX0_number.2.1 75 = .ok (.iconst 1, 1) := by decide +kernel
theorem eX0_number_76 : decode mX0_number.2.1 76 = .ok (.goto 4, 3) := by decide +kernel
theorem eX0_number_79 : decode mX0_number.2.1 79 = .ok (.iconst 0, 1) := by decide +kernel
theorem eX0_number_80 : decode mX0_number.2.1 80 = .ok (.putfield 26, 3) := by decide +kernel
theorem eX0_number_83 : decode mX0_number.2.1 83 = .ok (.iload_n 1, 1) := by decide +kernel
theorem eX0_number_84 : decode mX0_number.2.1 84 = .ok (.ireturn, 1) := by decide +kernel
theorem num2 (hR : RdAt h e n R a b ss r) (hn : n ≤ 100) (hA : RA R n) (ha : a ≤ n) {x : Int32} (hd : 1 ≤ d) {h0 : Hp} (hs : Same e 3 h0 h) (hQ : ∀ h', RdAt h' e n R a b ss r → Same e 3 h0 h' → Q (some (.int x)) h') : AW l G mX0_number d 0 0 Q 0 0 h [some (.ref e), some (.int x), some (.int 2)] [] 4 := by
  refine aw_iload_n (pc' := 5) eX0_number_4 rfl rfl ?_
  refine aw_iconst (pc' := 6) (v := 2) eX0_number_5 rfl (by decide) ?_
  refine aw_icmp_ge (pc' := 9) (tgt := 63) eX0_number_6 rfl (by decide) (fun c_6 => ?_) (fun c_6 => ?_)
  · refine aw_aload_n (pc' := 64) eX0_number_63 rfl rfl trivial ?_
    refine aw_aload_n (pc' := 65) eX0_number_64 rfl rfl trivial ?_
    refine aw_Oget (pc' := 68) (ci := 0) (kf := 4) (N := 7) (.int (zb b)) (hR).1 eX0_number_65 rfl rfl rfl inX0 (by decide) q187 rfl ?_
    refine aw_if_eq (pc' := 71) (tgt := 79) eX0_number_68 rfl (by decide) (fun c_68 => ?_) (fun c_68 => ?_)
    · refine aw_iconst (pc' := 80) (v := 0) eX0_number_79 rfl (by decide) ?_
      refine aw_Rfit (pc' := 83) b hR eX0_number_80 rfl q187 c_68.symm (fun h3 hR1 hs2 => ?_)
      refine aw_iload_n (pc' := 84) eX0_number_83 rfl rfl ?_
      refine aw_ret (v := some (.int _)) eX0_number_84 ⟨rfl, rfl⟩ (by omega) (by omega) rfl ?_
      exact hQ _ hR1 (hs.tr hs2)
    · refine aw_iload_n (pc' := 72) eX0_number_71 rfl rfl ?_
      refine aw_if_le (pc' := 75) (tgt := 79) eX0_number_72 rfl (by decide) (fun c_72 => ?_) (fun c_72 => ?_)
      · exact absurd c_72 (by decide)
      · refine aw_iconst (pc' := 76) (v := 1) eX0_number_75 rfl (by decide) ?_
        refine aw_goto eX0_number_76 (by decide) (tgt := 80) ?_
        refine aw_Rfit (pc' := 83) b hR eX0_number_80 rfl q187 (zb_eq1.mpr (zb_ne0.mp c_68)).symm (fun h6 hR4 hs5 => ?_)
        refine aw_iload_n (pc' := 84) eX0_number_83 rfl rfl ?_
        refine aw_ret (v := some (.int _)) eX0_number_84 ⟨rfl, rfl⟩ (by omega) (by omega) rfl ?_
        exact hQ _ hR4 (hs.tr hs5)
  · exact absurd (by decide) c_6
theorem num1 (hR : RdAt h e n R a b ss r) (hn : n ≤ 100) (hA : RA R n) (ha : a ≤ n) {x : Int32} (hd : 1 ≤ d) {h0 : Hp} (hs : Same e 3 h0 h) (hQ : ∀ h', RdAt h' e n R (nd1 R n x a b).2.1 (nd1 R n x a b).2.2 ss r → Same e 3 h0 h' → Q (some (.int (nd1 R n x a b).1)) h') : AW l G mX0_number d 0 0 Q 0 0 h [some (.ref e), some (.int x), some (.int 1)] [] 4 := by
  refine aw_iload_n (pc' := 5) eX0_number_4 rfl rfl ?_
  refine aw_iconst (pc' := 6) (v := 2) eX0_number_5 rfl (by decide) ?_
  refine aw_icmp_ge (pc' := 9) (tgt := 63) eX0_number_6 rfl (by decide) (fun c_6 => ?_) (fun c_6 => ?_)
  · exact absurd c_6 (by decide)
  · refine aw_aload_n (pc' := 10) eX0_number_9 rfl rfl trivial ?_
    refine aw_Oget (pc' := 13) (ci := 0) (kf := 4) (N := 7) (.int (zb b)) (hR).1 eX0_number_10 rfl rfl rfl inX0 (by decide) q187 rfl ?_
    refine aw_if_eq (pc' := 16) (tgt := 63) eX0_number_13 rfl (by decide) (fun c_13 => ?_) (fun c_13 => ?_)
    · refine aw_aload_n (pc' := 64) eX0_number_63 rfl rfl trivial ?_
      refine aw_aload_n (pc' := 65) eX0_number_64 rfl rfl trivial ?_
      refine aw_Oget (pc' := 68) (ci := 0) (kf := 4) (N := 7) (.int (zb b)) (hR).1 eX0_number_65 rfl rfl rfl inX0 (by decide) q187 rfl ?_
      refine aw_if_eq (pc' := 71) (tgt := 79) eX0_number_68 rfl (by decide) (fun c_68 => ?_) (fun c_68 => ?_)
      · refine aw_iconst (pc' := 80) (v := 0) eX0_number_79 rfl (by decide) ?_
        refine aw_Rfit (pc' := 83) b hR eX0_number_80 rfl q187 c_68.symm (fun h3 hR1 hs2 => ?_)
        refine aw_iload_n (pc' := 84) eX0_number_83 rfl rfl ?_
        refine aw_ret (v := some (.int _)) eX0_number_84 ⟨rfl, rfl⟩ (by omega) (by omega) rfl ?_
        rw [nd1, if_neg (by rw [dg_f hA (Or.inl (zb_eq0.mp c_13))]; decide)] at hQ
        exact hQ _ hR1 (hs.tr hs2)
      · refine aw_iload_n (pc' := 72) eX0_number_71 rfl rfl ?_
        refine aw_if_le (pc' := 75) (tgt := 79) eX0_number_72 rfl (by decide) (fun c_72 => ?_) (fun c_72 => ?_)
        · exact absurd c_72 (by decide)
        · refine aw_iconst (pc' := 76) (v := 1) eX0_number_75 rfl (by decide) ?_
          refine aw_goto eX0_number_76 (by decide) (tgt := 80) ?_
          refine aw_Rfit (pc' := 83) b hR eX0_number_80 rfl q187 (zb_eq1.mpr (zb_ne0.mp c_68)).symm (fun h6 hR4 hs5 => ?_)
          refine aw_iload_n (pc' := 84) eX0_number_83 rfl rfl ?_
          refine aw_ret (v := some (.int _)) eX0_number_84 ⟨rfl, rfl⟩ (by omega) (by omega) rfl ?_
          rw [nd1, if_neg (by rw [dg_f hA (Or.inl (zb_eq0.mp c_13))]; decide)] at hQ
          exact hQ _ hR4 (hs.tr hs5)
    · refine aw_aload_n (pc' := 17) eX0_number_16 rfl rfl trivial ?_
      refine aw_callv (pc' := 20) (nn := 0) (c_X0_sign (d := d - 1) hR hn (by omega) (by omega)) eX0_number_17 rfl ⟨q424, q427, q59⟩ q426 q8 ⟨rfl, by decide +kernel, by decide +kernel, by decide +kernel⟩ rfl (hR).ob rfl ⟨by omega, by decide⟩ ⟨by omega, by omega⟩ rfl (Nat.le_of_ble_eq_true rfl) (fun v7 h8 hq9 => ?_)
      obtain ⟨rfl, rfl⟩ := hq9
      dsimp only [Option.toList, List.cons_append, List.nil_append]
      refine aw_bipush (pc' := 22) (v := 48) eX0_number_20 rfl (by decide) ?_
      refine aw_icmp_lt (pc' := 25) (tgt := 63) eX0_number_22 rfl (by decide) (fun c_22 => ?_) (fun c_22 => ?_)
      · refine aw_aload_n (pc' := 64) eX0_number_63 rfl rfl trivial ?_
        refine aw_aload_n (pc' := 65) eX0_number_64 rfl rfl trivial ?_
        refine aw_Oget (pc' := 68) (ci := 0) (kf := 4) (N := 7) (.int (zb b)) (hR).1 eX0_number_65 rfl rfl rfl inX0 (by decide) q187 rfl ?_
        refine aw_if_eq (pc' := 71) (tgt := 79) eX0_number_68 rfl (by decide) (fun c_68 => ?_) (fun c_68 => ?_)
        · refine aw_iconst (pc' := 80) (v := 0) eX0_number_79 rfl (by decide) ?_
          refine aw_Rfit (pc' := 83) b hR eX0_number_80 rfl q187 c_68.symm (fun h12 hR10 hs11 => ?_)
          refine aw_iload_n (pc' := 84) eX0_number_83 rfl rfl ?_
          refine aw_ret (v := some (.int _)) eX0_number_84 ⟨rfl, rfl⟩ (by omega) (by omega) rfl ?_
          rw [nd1, if_neg (by rw [dg_f hA (Or.inr (Or.inl c_22))]; decide)] at hQ
          exact hQ _ hR10 (hs.tr hs11)
        · refine aw_iload_n (pc' := 72) eX0_number_71 rfl rfl ?_
          refine aw_if_le (pc' := 75) (tgt := 79) eX0_number_72 rfl (by decide) (fun c_72 => ?_) (fun c_72 => ?_)
          · exact absurd c_72 (by decide)
          · refine aw_iconst (pc' := 76) (v := 1) eX0_number_75 rfl (by decide) ?_
            refine aw_goto eX0_number_76 (by decide) (tgt := 80) ?_
            refine aw_Rfit (pc' := 83) b hR eX0_number_80 rfl q187 (zb_eq1.mpr (zb_ne0.mp c_68)).symm (fun h15 hR13 hs14 => ?_)
            refine aw_iload_n (pc' := 84) eX0_number_83 rfl rfl ?_
            refine aw_ret (v := some (.int _)) eX0_number_84 ⟨rfl, rfl⟩ (by omega) (by omega) rfl ?_
            rw [nd1, if_neg (by rw [dg_f hA (Or.inr (Or.inl c_22))]; decide)] at hQ
            exact hQ _ hR13 (hs.tr hs14)
      · refine aw_aload_n (pc' := 26) eX0_number_25 rfl rfl trivial ?_
        refine aw_callv (pc' := 29) (nn := 0) (c_X0_sign (d := d - 1) hR hn (by omega) (by omega)) eX0_number_26 rfl ⟨q424, q427, q59⟩ q426 q8 ⟨rfl, by decide +kernel, by decide +kernel, by decide +kernel⟩ rfl (hR).ob rfl ⟨by omega, by decide⟩ ⟨by omega, by omega⟩ rfl (Nat.le_of_ble_eq_true rfl) (fun v16 h17 hq18 => ?_)
        obtain ⟨rfl, rfl⟩ := hq18
        dsimp only [Option.toList, List.cons_append, List.nil_append]
        refine aw_bipush (pc' := 31) (v := 57) eX0_number_29 rfl (by decide) ?_
        refine aw_icmp_gt (pc' := 34) (tgt := 63) eX0_number_31 rfl (by decide) (fun c_31 => ?_) (fun c_31 => ?_)
        · refine aw_aload_n (pc' := 64) eX0_number_63 rfl rfl trivial ?_
          refine aw_aload_n (pc' := 65) eX0_number_64 rfl rfl trivial ?_
          refine aw_Oget (pc' := 68) (ci := 0) (kf := 4) (N := 7) (.int (zb b)) (hR).1 eX0_number_65 rfl rfl rfl inX0 (by decide) q187 rfl ?_
          refine aw_if_eq (pc' := 71) (tgt := 79) eX0_number_68 rfl (by decide) (fun c_68 => ?_) (fun c_68 => ?_)
          · refine aw_iconst (pc' := 80) (v := 0) eX0_number_79 rfl (by decide) ?_
            refine aw_Rfit (pc' := 83) b hR eX0_number_80 rfl q187 c_68.symm (fun h21 hR19 hs20 => ?_)
            refine aw_iload_n (pc' := 84) eX0_number_83 rfl rfl ?_
            refine aw_ret (v := some (.int _)) eX0_number_84 ⟨rfl, rfl⟩ (by omega) (by omega) rfl ?_
            rw [nd1, if_neg (by rw [dg_f hA (Or.inr (Or.inr c_31))]; decide)] at hQ
            exact hQ _ hR19 (hs.tr hs20)
          · refine aw_iload_n (pc' := 72) eX0_number_71 rfl rfl ?_
            refine aw_if_le (pc' := 75) (tgt := 79) eX0_number_72 rfl (by decide) (fun c_72 => ?_) (fun c_72 => ?_)
            · exact absurd c_72 (by decide)
            · refine aw_iconst (pc' := 76) (v := 1) eX0_number_75 rfl (by decide) ?_
              refine aw_goto eX0_number_76 (by decide) (tgt := 80) ?_
              refine aw_Rfit (pc' := 83) b hR eX0_number_80 rfl q187 (zb_eq1.mpr (zb_ne0.mp c_68)).symm (fun h24 hR22 hs23 => ?_)
              refine aw_iload_n (pc' := 84) eX0_number_83 rfl rfl ?_
              refine aw_ret (v := some (.int _)) eX0_number_84 ⟨rfl, rfl⟩ (by omega) (by omega) rfl ?_
              rw [nd1, if_neg (by rw [dg_f hA (Or.inr (Or.inr c_31))]; decide)] at hQ
              exact hQ _ hR22 (hs.tr hs23)
        · have hpd := dg_t hA (zb_ne0.mp c_13) c_22 c_31
          refine aw_iload_n (pc' := 35) eX0_number_34 rfl rfl ?_
          refine aw_bipush (pc' := 37) (v := 10) eX0_number_35 rfl (by decide) ?_
          refine aw_imul (pc' := 38) eX0_number_37 rfl ?_
          refine aw_aload_n (pc' := 39) eX0_number_38 rfl rfl trivial ?_
          refine aw_callv (pc' := 42) (nn := 0) (c_X0_sign (d := d - 1) hR hn (by omega) (by omega)) eX0_number_39 rfl ⟨q424, q427, q59⟩ q426 q8 ⟨rfl, by decide +kernel, by decide +kernel, by decide +kernel⟩ rfl (hR).ob rfl ⟨by omega, by decide⟩ ⟨by omega, by omega⟩ rfl (Nat.le_of_ble_eq_true rfl) (fun v25 h26 hq27 => ?_)
          obtain ⟨rfl, rfl⟩ := hq27
          dsimp only [Option.toList, List.cons_append, List.nil_append]
          rw [hpd.2.1]
          have hlt := hpd.2.2
          refine aw_iadd (pc' := 43) eX0_number_42 rfl ?_
          refine aw_bipush (pc' := 45) (v := 48) eX0_number_43 rfl (by decide) ?_
          refine aw_isub (pc' := 46) eX0_number_45 rfl ?_
          refine aw_istore_n (pc' := 47) eX0_number_46 rfl (by decide) ?_
          dsimp only [zst, zst2, zcut]
          refine aw_aload_n (pc' := 48) eX0_number_47 rfl rfl trivial ?_
          refine aw_dup (pc' := 49) eX0_number_48 rfl rfl ?_
          refine aw_Oget (pc' := 52) (ci := 0) (kf := 3) (N := 7) (.int (nI (a))) (hR).1 eX0_number_49 rfl rfl rfl inX0 (by decide) q186 rfl ?_
          refine aw_iconst (pc' := 53) (v := 1) eX0_number_52 rfl (by decide) ?_
          refine aw_iadd (pc' := 54) eX0_number_53 rfl ?_
          refine aw_Rat (pc' := 57) (a + 1) hR eX0_number_54 rfl q186 (nI_1 (a)) (fun h30 hR28 hs29 => ?_)
          refine aw_iinc (pc' := 60) eX0_number_57 rfl rfl rfl (by decide) ?_
          dsimp only [zst, zst2, zcut]
          refine aw_goto eX0_number_60 (by decide) (tgt := 4) ?_
          rw [nd1, if_pos hpd.1] at hQ
          rw [show (1 : Int32) + Int32.ofInt 1 = 2 from by decide]
          exact num2 hR28 hn hA (by omega) hd (hs.tr hs29) hQ
theorem num0 (hR : RdAt h e n R a b ss r) (hn : n ≤ 100) (hA : RA R n) (ha : a ≤ n) (hd : 1 ≤ d) {h0 : Hp} (hs : Same e 3 h0 h) (hQ : ∀ h', RdAt h' e n R (nd0 R n a b).2.1 (nd0 R n a b).2.2 ss r → Same e 3 h0 h' → Q (some (.int (nd0 R n a b).1)) h') : AW l G mX0_number d 0 0 Q 0 0 h [some (.ref e), some (.int 0), some (.int 0)] [] 4 := by
  refine aw_iload_n (pc' := 5) eX0_number_4 rfl rfl ?_
  refine aw_iconst (pc' := 6) (v := 2) eX0_number_5 rfl (by decide) ?_
  refine aw_icmp_ge (pc' := 9) (tgt := 63) eX0_number_6 rfl (by decide) (fun c_6 => ?_) (fun c_6 => ?_)
  · exact absurd c_6 (by decide)
  · refine aw_aload_n (pc' := 10) eX0_number_9 rfl rfl trivial ?_
    refine aw_Oget (pc' := 13) (ci := 0) (kf := 4) (N := 7) (.int (zb b)) (hR).1 eX0_number_10 rfl rfl rfl inX0 (by decide) q187 rfl ?_
    refine aw_if_eq (pc' := 16) (tgt := 63) eX0_number_13 rfl (by decide) (fun c_13 => ?_) (fun c_13 => ?_)
    · refine aw_aload_n (pc' := 64) eX0_number_63 rfl rfl trivial ?_
      refine aw_aload_n (pc' := 65) eX0_number_64 rfl rfl trivial ?_
      refine aw_Oget (pc' := 68) (ci := 0) (kf := 4) (N := 7) (.int (zb b)) (hR).1 eX0_number_65 rfl rfl rfl inX0 (by decide) q187 rfl ?_
      refine aw_if_eq (pc' := 71) (tgt := 79) eX0_number_68 rfl (by decide) (fun c_68 => ?_) (fun c_68 => ?_)
      · refine aw_iconst (pc' := 80) (v := 0) eX0_number_79 rfl (by decide) ?_
        refine aw_Rfit (pc' := 83) false hR eX0_number_80 rfl q187 rfl (fun h3 hR1 hs2 => ?_)
        refine aw_iload_n (pc' := 84) eX0_number_83 rfl rfl ?_
        refine aw_ret (v := some (.int _)) eX0_number_84 ⟨rfl, rfl⟩ (by omega) (by omega) rfl ?_
        rw [nd0, if_neg (by rw [dg_f hA (Or.inl (zb_eq0.mp c_13))]; decide)] at hQ
        exact hQ _ hR1 (hs.tr hs2)
      · refine aw_iload_n (pc' := 72) eX0_number_71 rfl rfl ?_
        refine aw_if_le (pc' := 75) (tgt := 79) eX0_number_72 rfl (by decide) (fun c_72 => ?_) (fun c_72 => ?_)
        · refine aw_iconst (pc' := 80) (v := 0) eX0_number_79 rfl (by decide) ?_
          refine aw_Rfit (pc' := 83) false hR eX0_number_80 rfl q187 rfl (fun h6 hR4 hs5 => ?_)
          refine aw_iload_n (pc' := 84) eX0_number_83 rfl rfl ?_
          refine aw_ret (v := some (.int _)) eX0_number_84 ⟨rfl, rfl⟩ (by omega) (by omega) rfl ?_
          rw [nd0, if_neg (by rw [dg_f hA (Or.inl (zb_eq0.mp c_13))]; decide)] at hQ
          exact hQ _ hR4 (hs.tr hs5)
        · exact absurd c_72 (by decide)
    · refine aw_aload_n (pc' := 17) eX0_number_16 rfl rfl trivial ?_
      refine aw_callv (pc' := 20) (nn := 0) (c_X0_sign (d := d - 1) hR hn (by omega) (by omega)) eX0_number_17 rfl ⟨q424, q427, q59⟩ q426 q8 ⟨rfl, by decide +kernel, by decide +kernel, by decide +kernel⟩ rfl (hR).ob rfl ⟨by omega, by decide⟩ ⟨by omega, by omega⟩ rfl (Nat.le_of_ble_eq_true rfl) (fun v7 h8 hq9 => ?_)
      obtain ⟨rfl, rfl⟩ := hq9
      dsimp only [Option.toList, List.cons_append, List.nil_append]
      refine aw_bipush (pc' := 22) (v := 48) eX0_number_20 rfl (by decide) ?_
      refine aw_icmp_lt (pc' := 25) (tgt := 63) eX0_number_22 rfl (by decide) (fun c_22 => ?_) (fun c_22 => ?_)
      · refine aw_aload_n (pc' := 64) eX0_number_63 rfl rfl trivial ?_
        refine aw_aload_n (pc' := 65) eX0_number_64 rfl rfl trivial ?_
        refine aw_Oget (pc' := 68) (ci := 0) (kf := 4) (N := 7) (.int (zb b)) (hR).1 eX0_number_65 rfl rfl rfl inX0 (by decide) q187 rfl ?_
        refine aw_if_eq (pc' := 71) (tgt := 79) eX0_number_68 rfl (by decide) (fun c_68 => ?_) (fun c_68 => ?_)
        · refine aw_iconst (pc' := 80) (v := 0) eX0_number_79 rfl (by decide) ?_
          refine aw_Rfit (pc' := 83) false hR eX0_number_80 rfl q187 rfl (fun h12 hR10 hs11 => ?_)
          refine aw_iload_n (pc' := 84) eX0_number_83 rfl rfl ?_
          refine aw_ret (v := some (.int _)) eX0_number_84 ⟨rfl, rfl⟩ (by omega) (by omega) rfl ?_
          rw [nd0, if_neg (by rw [dg_f hA (Or.inr (Or.inl c_22))]; decide)] at hQ
          exact hQ _ hR10 (hs.tr hs11)
        · refine aw_iload_n (pc' := 72) eX0_number_71 rfl rfl ?_
          refine aw_if_le (pc' := 75) (tgt := 79) eX0_number_72 rfl (by decide) (fun c_72 => ?_) (fun c_72 => ?_)
          · refine aw_iconst (pc' := 80) (v := 0) eX0_number_79 rfl (by decide) ?_
            refine aw_Rfit (pc' := 83) false hR eX0_number_80 rfl q187 rfl (fun h15 hR13 hs14 => ?_)
            refine aw_iload_n (pc' := 84) eX0_number_83 rfl rfl ?_
            refine aw_ret (v := some (.int _)) eX0_number_84 ⟨rfl, rfl⟩ (by omega) (by omega) rfl ?_
            rw [nd0, if_neg (by rw [dg_f hA (Or.inr (Or.inl c_22))]; decide)] at hQ
            exact hQ _ hR13 (hs.tr hs14)
          · exact absurd c_72 (by decide)
      · refine aw_aload_n (pc' := 26) eX0_number_25 rfl rfl trivial ?_
        refine aw_callv (pc' := 29) (nn := 0) (c_X0_sign (d := d - 1) hR hn (by omega) (by omega)) eX0_number_26 rfl ⟨q424, q427, q59⟩ q426 q8 ⟨rfl, by decide +kernel, by decide +kernel, by decide +kernel⟩ rfl (hR).ob rfl ⟨by omega, by decide⟩ ⟨by omega, by omega⟩ rfl (Nat.le_of_ble_eq_true rfl) (fun v16 h17 hq18 => ?_)
        obtain ⟨rfl, rfl⟩ := hq18
        dsimp only [Option.toList, List.cons_append, List.nil_append]
        refine aw_bipush (pc' := 31) (v := 57) eX0_number_29 rfl (by decide) ?_
        refine aw_icmp_gt (pc' := 34) (tgt := 63) eX0_number_31 rfl (by decide) (fun c_31 => ?_) (fun c_31 => ?_)
        · refine aw_aload_n (pc' := 64) eX0_number_63 rfl rfl trivial ?_
          refine aw_aload_n (pc' := 65) eX0_number_64 rfl rfl trivial ?_
          refine aw_Oget (pc' := 68) (ci := 0) (kf := 4) (N := 7) (.int (zb b)) (hR).1 eX0_number_65 rfl rfl rfl inX0 (by decide) q187 rfl ?_
          refine aw_if_eq (pc' := 71) (tgt := 79) eX0_number_68 rfl (by decide) (fun c_68 => ?_) (fun c_68 => ?_)
          · refine aw_iconst (pc' := 80) (v := 0) eX0_number_79 rfl (by decide) ?_
            refine aw_Rfit (pc' := 83) false hR eX0_number_80 rfl q187 rfl (fun h21 hR19 hs20 => ?_)
            refine aw_iload_n (pc' := 84) eX0_number_83 rfl rfl ?_
            refine aw_ret (v := some (.int _)) eX0_number_84 ⟨rfl, rfl⟩ (by omega) (by omega) rfl ?_
            rw [nd0, if_neg (by rw [dg_f hA (Or.inr (Or.inr c_31))]; decide)] at hQ
            exact hQ _ hR19 (hs.tr hs20)
          · refine aw_iload_n (pc' := 72) eX0_number_71 rfl rfl ?_
            refine aw_if_le (pc' := 75) (tgt := 79) eX0_number_72 rfl (by decide) (fun c_72 => ?_) (fun c_72 => ?_)
            · refine aw_iconst (pc' := 80) (v := 0) eX0_number_79 rfl (by decide) ?_
              refine aw_Rfit (pc' := 83) false hR eX0_number_80 rfl q187 rfl (fun h24 hR22 hs23 => ?_)
              refine aw_iload_n (pc' := 84) eX0_number_83 rfl rfl ?_
              refine aw_ret (v := some (.int _)) eX0_number_84 ⟨rfl, rfl⟩ (by omega) (by omega) rfl ?_
              rw [nd0, if_neg (by rw [dg_f hA (Or.inr (Or.inr c_31))]; decide)] at hQ
              exact hQ _ hR22 (hs.tr hs23)
            · exact absurd c_72 (by decide)
        · have hpd := dg_t hA (zb_ne0.mp c_13) c_22 c_31
          refine aw_iload_n (pc' := 35) eX0_number_34 rfl rfl ?_
          refine aw_bipush (pc' := 37) (v := 10) eX0_number_35 rfl (by decide) ?_
          refine aw_imul (pc' := 38) eX0_number_37 rfl ?_
          refine aw_aload_n (pc' := 39) eX0_number_38 rfl rfl trivial ?_
          refine aw_callv (pc' := 42) (nn := 0) (c_X0_sign (d := d - 1) hR hn (by omega) (by omega)) eX0_number_39 rfl ⟨q424, q427, q59⟩ q426 q8 ⟨rfl, by decide +kernel, by decide +kernel, by decide +kernel⟩ rfl (hR).ob rfl ⟨by omega, by decide⟩ ⟨by omega, by omega⟩ rfl (Nat.le_of_ble_eq_true rfl) (fun v25 h26 hq27 => ?_)
          obtain ⟨rfl, rfl⟩ := hq27
          dsimp only [Option.toList, List.cons_append, List.nil_append]
          rw [hpd.2.1]
          have hlt := hpd.2.2
          refine aw_iadd (pc' := 43) eX0_number_42 rfl ?_
          refine aw_bipush (pc' := 45) (v := 48) eX0_number_43 rfl (by decide) ?_
          refine aw_isub (pc' := 46) eX0_number_45 rfl ?_
          refine aw_istore_n (pc' := 47) eX0_number_46 rfl (by decide) ?_
          dsimp only [zst, zst2, zcut]
          refine aw_aload_n (pc' := 48) eX0_number_47 rfl rfl trivial ?_
          refine aw_dup (pc' := 49) eX0_number_48 rfl rfl ?_
          refine aw_Oget (pc' := 52) (ci := 0) (kf := 3) (N := 7) (.int (nI (a))) (hR).1 eX0_number_49 rfl rfl rfl inX0 (by decide) q186 rfl ?_
          refine aw_iconst (pc' := 53) (v := 1) eX0_number_52 rfl (by decide) ?_
          refine aw_iadd (pc' := 54) eX0_number_53 rfl ?_
          refine aw_Rat (pc' := 57) (a + 1) hR eX0_number_54 rfl q186 (nI_1 (a)) (fun h30 hR28 hs29 => ?_)
          refine aw_iinc (pc' := 60) eX0_number_57 rfl rfl rfl (by decide) ?_
          dsimp only [zst, zst2, zcut]
          refine aw_goto eX0_number_60 (by decide) (tgt := 4) ?_
          rw [nd0, if_pos hpd.1] at hQ
          rw [show (0 : Int32) + Int32.ofInt 1 = 1 from by decide]
          exact num1 hR28 hn hA (by omega) hd (hs.tr hs29) hQ
theorem c_X0_number (hR : RdAt h e n R a b ss r) (hn : n ≤ 100) (hA : RA R n) (ha : a ≤ n) (hd : 1 ≤ d) : Ct l G mX0_number yX0_number d 0 0 [.ref e] h (fun v h' => v = some (.int (pNum R n (a, b)).1) ∧ RdAt h' e n R (pNum R n (a, b)).2.1 (pNum R n (a, b)).2.2 ss r ∧ Same e 3 h h') := by
  refine ct_of (lv := [some (.ref e), none, none]) (by decide +kernel) rfl (fun z => by cases z) (fun _ => rfl) (fun _ => Nat.le_of_ble_eq_true rfl) ?_
  refine aw_iconst (pc' := 1) (v := 0) eX0_number_0 rfl (by decide) ?_
  refine aw_istore_n (pc' := 2) eX0_number_1 rfl (by decide) ?_
  dsimp only [zst, zst2, zcut]
  refine aw_iconst (pc' := 3) (v := 0) eX0_number_2 rfl (by decide) ?_
  refine aw_istore_n (pc' := 4) eX0_number_3 rfl (by decide) ?_
  dsimp only [zst, zst2, zcut]
  refine num0 hR hn hA ha hd Same.rf (fun h' a b => ?_)
  rw [nd0_eq] at a ⊢
  exact ⟨rfl, a, b⟩
abbrev mX2_step : MT := (RX2, cX2_step, 3, (some .int), false)
theorem eX2_step_0 : decode mX2_step.2.1 0 = .ok (.iload_n 2, 1) := by decide +kernel
theorem eX2_step_1 : decode mX2_step.2.1 1 = .ok (.bipush 8, 2) := by decide +kernel
theorem eX2_step_3 : decode mX2_step.2.1 3 = .ok (.ishl, 1) := by decide +kernel
theorem eX2_step_4 : decode mX2_step.2.1 4 = .ok (.iload_n 1, 1) := by decide +kernel
theorem eX2_step_5 : decode mX2_step.2.1 5 = .ok (.iconst 4, 1) := by decide +kernel
theorem eX2_step_6 : decode mX2_step.2.1 6 = .ok (.ishl, 1) := by decide +kernel
theorem eX2_step_7 : decode mX2_step.2.1 7 = .ok (.ior, 1) := by decide +kernel
theorem eX2_step_8 : decode mX2_step.2.1 8 = .ok (.iload_n 0, 1) := by decide +kernel
theorem eX2_step_9 : decode mX2_step.2.1 9 = .ok (.ior, 1) := by decide +kernel
theorem eX2_step_10 : decode mX2_step.2.1 10 = .ok (.ireturn, 1) := by decide +kernel
theorem c_X2_step (x y z : Int32) (hd : 0 ≤ d) : Ct l G mX2_step yX2_step d 0 0 [.int x, .int y, .int z] h (fun v h' => v = some (.int (((z <<< (8 &&& 31)) ||| (y <<< (4 &&& 31))) ||| x)) ∧ h' = h) := by
  refine ct_of (lv := [some (.int x), some (.int y), some (.int z)]) (by decide +kernel) rfl (fun z => by cases z) (fun _ => rfl) (fun _ => Nat.le_of_ble_eq_true rfl) ?_
  refine aw_iload_n (pc' := 1) eX2_step_0 rfl rfl ?_
  refine aw_bipush (pc' := 3) (v := 8) eX2_step_1 rfl (by decide) ?_
  refine aw_ishl (pc' := 4) eX2_step_3 rfl ?_
  refine aw_iload_n (pc' := 5) eX2_step_4 rfl rfl ?_
  refine aw_iconst (pc' := 6) (v := 4) eX2_step_5 rfl (by decide) ?_
  refine aw_ishl (pc' := 7) eX2_step_6 rfl ?_
  refine aw_ior (pc' := 8) eX2_step_7 rfl ?_
  refine aw_iload_n (pc' := 9) eX2_step_8 rfl rfl ?_
  refine aw_ior (pc' := 10) eX2_step_9 rfl ?_
  refine aw_ret (v := some (.int _)) eX2_step_10 ⟨rfl, rfl⟩ (by omega) (by omega) rfl ?_
  exact ⟨rfl, rfl⟩
abbrev mX0_step : MT := (RX0, cX0_step, 4, none, false)
theorem eX0_step_0 : decode mX0_step.2.1 0 = .ok (.aload_n 0, 1) := by decide +kernel
theorem eX0_step_1 : decode mX0_step.2.1 1 = .ok (.getfield 26, 3) := by decide +kernel
theorem eX0_step_4 : decode mX0_step.2.1 4 = .ok (.ifCond .eq 37, 3) := by decide +kernel
theorem eX0_step_7 : decode mX0_step.2.1 7 = .ok (.aload_n 0, 1) := by decide +kernel
theorem eX0_step_8 : decode mX0_step.2.1 8 = .ok (.getfield 30, 3) := by decide +kernel
theorem eX0_step_11 : decode mX0_step.2.1 11 = .ok (.bipush 100, 2) := by decide +kernel
theorem eX0_step_13 : decode mX0_step.2.1 13 = .ok (.if_icmp .ge 28, 3) := by decide +kernel
theorem eX0_step_16 : decode mX0_step.2.1 16 = .ok (.aload_n 0, 1) := by decide +kernel
theorem eX0_step_17 : decode mX0_step.2.1 17 = .ok (.getfield 15, 3) := by decide +kernel
theorem eX0_step_20 : decode mX0_step.2.1 20 = .ok (.aload_n 0, 1) := by decide +kernel
theorem eX0_step_21 : decode mX0_step.2.1 21 = .ok (.getfield 30, 3) := by decide +kernel
theorem eX0_step_24 : decode mX0_step.2.1 24 = .ok (.iload_n 1, 1) := by decide +kernel
theorem eX0_step_25 : decode mX0_step.2.1 25 = .ok (.iload_n 2, 1) := by decide +kernel
theorem eX0_step_26 : decode mX0_step.2.1 26 = .ok (.iload_n 3, 1) := by decide +kernel
theorem eX0_step_27 : decode mX0_step.2.1 27 = .ok (.invokestatic 99, 3) := by decide +kernel
theorem eX0_step_30 : decode mX0_step.2.1 30 = .ok (.iastore, 1) := by decide +kernel
theorem eX0_step_31 : decode mX0_step.2.1 31 = .ok (.aload_n 0, 1) := by decide +kernel
theorem eX0_step_32 : decode mX0_step.2.1 32 = .ok (.dup, 1) := by decide +kernel
theorem eX0_step_33 : decode mX0_step.2.1 33 = .ok (.getfield 30, 3) := by decide +kernel
theorem eX0_step_36 : decode mX0_step.2.1 36 = .ok (.iconst 1, 1) := by decide +kernel
theorem eX0_step_37 : decode mX0_step.2.1 37 = .ok (.iadd, 1) := by decide +kernel
theorem eX0_step_38 : decode mX0_step.2.1 38 = .ok (.putfield 30, 3) := by decide +kernel
theorem eX0_step_41 : decode mX0_step.2.1 41 = .ok (.return_, 1) := by decide +kernel
theorem c_X0_step (hR : RdAt h e n R a b ss r) (hl : b = true → ss.length < 100) (hl2 : ss.length < 2147483648) (x y z : Int32) (hd : 1 ≤ d) : Ct l G mX0_step yX0_step d 0 0 [.ref e, .int x, .int y, .int z] h (fun v h' => v = none ∧ RdAt h' e n R a b (if b = true then ss ++ [(((z <<< (8 &&& 31)) ||| (y <<< (4 &&& 31))) ||| x)] else ss) r ∧ Same e 3 h h') := by
  refine ct_of (lv := [some (.ref e), some (.int x), some (.int y), some (.int z)]) (by decide +kernel) rfl (fun z => by cases z) (fun _ => rfl) (fun _ => Nat.le_of_ble_eq_true rfl) ?_
  refine aw_aload_n (pc' := 1) eX0_step_0 rfl rfl trivial ?_
  refine aw_Oget (pc' := 4) (ci := 0) (kf := 4) (N := 7) (.int (zb b)) (hR).1 eX0_step_1 rfl rfl rfl inX0 (by decide) q187 rfl ?_
  refine aw_if_eq (pc' := 7) (tgt := 41) eX0_step_4 rfl (by decide) (fun c_4 => ?_) (fun c_4 => ?_)
  · refine aw_ret (v := none) eX0_step_41 rfl (by omega) (by omega) rfl ?_
    have hb := zb_eq0.mp c_4
    subst hb
    exact ⟨rfl, hR, Same.rf⟩
  · have hl9 := hl (zb_ne0.mp c_4)
    refine aw_aload_n (pc' := 8) eX0_step_7 rfl rfl trivial ?_
    refine aw_Oget (pc' := 11) (ci := 0) (kf := 5) (N := 7) (.int (nI (ss).length)) (hR).1 eX0_step_8 rfl rfl rfl inX0 (by decide) q188 rfl ?_
    refine aw_bipush (pc' := 13) (v := 100) eX0_step_11 rfl (by decide) ?_
    refine aw_icmp_ge (pc' := 16) (tgt := 41) eX0_step_13 rfl (by decide) (fun c_13 => ?_) (fun c_13 => ?_)
    · exact absurd (ge_nI (a := ss.length) (b := 100) (by omega) (by omega) c_13) (by omega)
    · refine aw_aload_n (pc' := 17) eX0_step_16 rfl rfl trivial ?_
      refine aw_Oget (pc' := 20) (ci := 0) (kf := 1) (N := 7) (.ref (e + 2)) (hR).1 eX0_step_17 rfl rfl rfl inX0 (by decide) q183 rfl ?_
      refine aw_aload_n (pc' := 21) eX0_step_20 rfl rfl trivial ?_
      refine aw_Oget (pc' := 24) (ci := 0) (kf := 5) (N := 7) (.int (nI (ss).length)) (hR).1 eX0_step_21 rfl rfl rfl inX0 (by decide) q188 rfl ?_
      refine aw_iload_n (pc' := 25) eX0_step_24 rfl rfl ?_
      refine aw_iload_n (pc' := 26) eX0_step_25 rfl rfl ?_
      refine aw_iload_n (pc' := 27) eX0_step_26 rfl rfl ?_
      refine aw_calls (pc' := 30) (nn := 3) (c_X2_step (d := d - 1) x y z (by omega)) eX0_step_27 rfl ⟨q554, q556, q71⟩ q555 ⟨by decide +kernel, by decide +kernel, by decide +kernel⟩ rfl ⟨by omega, by decide⟩ ⟨by omega, by omega⟩ rfl (Nat.le_of_ble_eq_true rfl) (fun v1 h2 hq3 => ?_)
      obtain ⟨rfl, rfl⟩ := hq3
      dsimp only [Option.toList, List.cons_append, List.nil_append]
      refine aw_Rss (pc' := 31) hR eX0_step_30 rfl ⟨rfl, by omega⟩ (fun h6 hX4 hs5 => ?_)
      refine aw_aload_n (pc' := 32) eX0_step_31 rfl rfl trivial ?_
      refine aw_dup (pc' := 33) eX0_step_32 rfl rfl ?_
      refine aw_Oget (pc' := 36) (ci := 0) (kf := 5) (N := 7) (.int (nI (ss).length)) (hX4.1).1 eX0_step_33 rfl rfl rfl inX0 (by decide) q188 rfl ?_
      refine aw_iconst (pc' := 37) (v := 1) eX0_step_36 rfl (by decide) ?_
      refine aw_iadd (pc' := 38) eX0_step_37 rfl ?_
      refine aw_Rsn (pc' := 41) hX4 eX0_step_38 rfl q188 (nI_1 _) (fun h9 hR7 hs8 => ?_)
      have hT10 := hs5.tr hs8
      refine aw_ret (v := none) eX0_step_41 rfl (by omega) (by omega) rfl ?_
      have hb := zb_ne0.mp c_4
      subst hb
      exact ⟨rfl, hR7, hT10⟩
end C9
