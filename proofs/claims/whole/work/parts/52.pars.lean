/-! the parser without fuel; what steps are worth -/
section P52
variable {R : Nat → Int32} {n : Nat} {L N N' : Nat → Int32}
theorem pX0 (f k : Nat) (b : Bool) (p : PP) : pX R n L N (f + 1) 0 k b p = if k < 4 ∧ pAt R n p 33 = true then (!(pX R n L N f 0 (k + 1) false (p.1 + 1, p.2)).1, (pX R n L N f 0 (k + 1) false (p.1 + 1, p.2)).2)
      else if k < 4 ∧ pAt R n p 40 = true then ((pX R n L N f 3 (k + 1) false (p.1 + 1, p.2)).1, pTk R n (pX R n L N f 3 (k + 1) false (p.1 + 1, p.2)).2 41) else pTest R n L N p := rfl
theorem pX1 (f k : Nat) (b : Bool) (p : PP) : pX R n L N (f + 1) 1 k b p = pX R n L N f 2 k (pX R n L N f 0 k false p).1 (pX R n L N f 0 k false p).2 := rfl
theorem pX2 (f k : Nat) (b : Bool) (p : PP) : pX R n L N (f + 1) 2 k b p = if pAt R n p 38 = true then pX R n L N f 2 k (b && (pX R n L N f 0 k false (p.1 + 1, p.2)).1) (pX R n L N f 0 k false (p.1 + 1, p.2)).2 else (b, p) := rfl
theorem pX3 (f k : Nat) (b : Bool) (p : PP) : pX R n L N (f + 1) 3 k b p = pX R n L N f 4 k (pX R n L N f 1 k false p).1 (pX R n L N f 1 k false p).2 := rfl
theorem pX4 (f k : Nat) (b : Bool) (p : PP) : pX R n L N (f + 1) 4 k b p = if pAt R n p 124 = true then pX R n L N f 4 k (b || (pX R n L N f 1 k false (p.1 + 1, p.2)).1) (pX R n L N f 1 k false (p.1 + 1, p.2)).2 else (b, p) := rfl
def pm (n t : Nat) (p : PP) : Nat := 4 * (n - p.1) + (if t = 1 then 2 else if t = 3 then 3 else 1)
theorem pX_st : ∀ (f t k : Nat) (b : Bool) (p : PP), t ≤ 4 → p.1 ≤ n → pm n t p ≤ f → pX R n L N f t k b p = pX R n L N (f + 1) t k b p
  | 0, t, k, b, p, _, _, hm => by
    unfold pm at hm
    split at hm
    · omega
    · split at hm <;> omega
  | f + 1, 0, k, b, p, _, h, hm => by
    have hm : 4 * (n - p.1) + 1 ≤ f + 1 := hm
    rw [pX0 f, pX0 (f + 1)]
    by_cases c1 : k < 4 ∧ pAt R n p 33 = true
    · have := pAt_lt c1.2
      rw [if_pos c1, if_pos c1, pX_st f 0 (k + 1) false (p.1 + 1, p.2) (by omega) (by show p.1 + 1 ≤ n; omega) (by show 4 * (n - (p.1 + 1)) + 1 ≤ f; omega)]
    · rw [if_neg c1, if_neg c1]
      by_cases c2 : k < 4 ∧ pAt R n p 40 = true
      · have := pAt_lt c2.2
        rw [if_pos c2, if_pos c2, pX_st f 3 (k + 1) false (p.1 + 1, p.2) (by omega) (by show p.1 + 1 ≤ n; omega) (by show 4 * (n - (p.1 + 1)) + 3 ≤ f; omega)]
      · rw [if_neg c2, if_neg c2]
  | f + 1, 1, k, b, p, _, h, hm => by
    have hm : 4 * (n - p.1) + 2 ≤ f + 1 := hm
    rw [pX1 f, pX1 (f + 1)]
    have h1 := pX_mon (R := R) (n := n) (L := L) (N := N) f 0 k false p h
    have e0 := pX_st f 0 k false p (by omega) h (by show 4 * (n - p.1) + 1 ≤ f; omega)
    rw [pX_st f 2 k _ _ (by omega) h1.2 (by show 4 * (n - (pX R n L N f 0 k false p).2.1) + 1 ≤ f; omega), e0]
  | f + 1, 2, k, b, p, _, h, hm => by
    have hm : 4 * (n - p.1) + 1 ≤ f + 1 := hm
    rw [pX2 f, pX2 (f + 1)]
    by_cases c : pAt R n p 38 = true
    · have := pAt_lt c
      have h1 := pX_mon (R := R) (n := n) (L := L) (N := N) f 0 k false (p.1 + 1, p.2) (by show p.1 + 1 ≤ n; omega)
      have h2 : p.1 + 1 ≤ (pX R n L N f 0 k false (p.1 + 1, p.2)).2.1 := h1.1
      have e0 := pX_st f 0 k false (p.1 + 1, p.2) (by omega) (by show p.1 + 1 ≤ n; omega) (by show 4 * (n - (p.1 + 1)) + 1 ≤ f; omega)
      rw [if_pos c, if_pos c, pX_st f 2 k _ _ (by omega) h1.2 (by show 4 * (n - (pX R n L N f 0 k false (p.1 + 1, p.2)).2.1) + 1 ≤ f; omega), e0]
    · rw [if_neg c, if_neg c]
  | f + 1, 3, k, b, p, _, h, hm => by
    have hm : 4 * (n - p.1) + 3 ≤ f + 1 := hm
    rw [pX3 f, pX3 (f + 1)]
    have h1 := pX_mon (R := R) (n := n) (L := L) (N := N) f 1 k false p h
    have e0 := pX_st f 1 k false p (by omega) h (by show 4 * (n - p.1) + 2 ≤ f; omega)
    rw [pX_st f 4 k _ _ (by omega) h1.2 (by show 4 * (n - (pX R n L N f 1 k false p).2.1) + 1 ≤ f; omega), e0]
  | f + 1, 4, k, b, p, _, h, hm => by
    have hm : 4 * (n - p.1) + 1 ≤ f + 1 := hm
    rw [pX4 f, pX4 (f + 1)]
    by_cases c : pAt R n p 124 = true
    · have := pAt_lt c
      have h1 := pX_mon (R := R) (n := n) (L := L) (N := N) f 1 k false (p.1 + 1, p.2) (by show p.1 + 1 ≤ n; omega)
      have h2 : p.1 + 1 ≤ (pX R n L N f 1 k false (p.1 + 1, p.2)).2.1 := h1.1
      have e0 := pX_st f 1 k false (p.1 + 1, p.2) (by omega) (by show p.1 + 1 ≤ n; omega) (by show 4 * (n - (p.1 + 1)) + 2 ≤ f; omega)
      rw [if_pos c, if_pos c, pX_st f 4 k _ _ (by omega) h1.2 (by show 4 * (n - (pX R n L N f 1 k false (p.1 + 1, p.2)).2.1) + 1 ≤ f; omega), e0]
    · rw [if_neg c, if_neg c]
  | f + 1, t + 5, k, b, p, ht, h, hm => absurd ht (by omega)
/-- fuel enough, a number that nothing unfolds -/
theorem fu_ex : ∃ x : Nat, x = 500 := ⟨500, rfl⟩
noncomputable def fu : Nat := Classical.choose fu_ex
theorem fu_eq : fu = 500 := Classical.choose_spec fu_ex
/-- the parser, with fuel enough -/
noncomputable def PX (R : Nat → Int32) (n : Nat) (L N : Nat → Int32) (t k : Nat) (b : Bool) (p : PP) : Bool × PP := pX R n L N fu t k b p
theorem PX_500 (t k : Nat) (b : Bool) (p : PP) : PX R n L N t k b p = pX R n L N (499 + 1) t k b p := by
  unfold PX
  rw [fu_eq]
theorem PX_499 (hn : n ≤ 100) {t k : Nat} {b : Bool} {p : PP} (ht : t ≤ 4) (h : p.1 ≤ n) : pX R n L N 499 t k b p = PX R n L N t k b p := by
  rw [PX_500]
  refine pX_st 499 t k b p ht h ?_
  unfold pm
  split
  · omega
  · split <;> omega
theorem PX0 (hn : n ≤ 100) {k : Nat} {b : Bool} {p : PP} (h : p.1 ≤ n) : PX R n L N 0 k b p = if k < 4 ∧ pAt R n p 33 = true then (!(PX R n L N 0 (k + 1) false (p.1 + 1, p.2)).1, (PX R n L N 0 (k + 1) false (p.1 + 1, p.2)).2)
      else if k < 4 ∧ pAt R n p 40 = true then ((PX R n L N 3 (k + 1) false (p.1 + 1, p.2)).1, pTk R n (PX R n L N 3 (k + 1) false (p.1 + 1, p.2)).2 41) else pTest R n L N p := by
  rw [PX_500 0 k b p, pX0 499]
  by_cases c1 : k < 4 ∧ pAt R n p 33 = true
  · have := pAt_lt c1.2
    rw [if_pos c1, if_pos c1, PX_499 hn (by omega) (show (p.1 + 1, p.2).1 ≤ n by show p.1 + 1 ≤ n; omega)]
  · rw [if_neg c1, if_neg c1]
    by_cases c2 : k < 4 ∧ pAt R n p 40 = true
    · have := pAt_lt c2.2
      rw [if_pos c2, if_pos c2, PX_499 hn (by omega) (show (p.1 + 1, p.2).1 ≤ n by show p.1 + 1 ≤ n; omega)]
    · rw [if_neg c2, if_neg c2]
theorem PX_mon {t k : Nat} {b : Bool} {p : PP} (h : p.1 ≤ n) : p.1 ≤ (PX R n L N t k b p).2.1 ∧ (PX R n L N t k b p).2.1 ≤ n := pX_mon fu t k b p h
theorem PX1 (hn : n ≤ 100) {k : Nat} {b : Bool} {p : PP} (h : p.1 ≤ n) : PX R n L N 1 k b p = PX R n L N 2 k (PX R n L N 0 k false p).1 (PX R n L N 0 k false p).2 := by
  rw [PX_500 1 k b p, pX1 499, PX_499 (t := 0) hn (by omega) h, PX_499 (t := 2) hn (by omega) (PX_mon h).2]
theorem PX2 (hn : n ≤ 100) {k : Nat} {b : Bool} {p : PP} (h : p.1 ≤ n) : PX R n L N 2 k b p = if pAt R n p 38 = true then PX R n L N 2 k (b && (PX R n L N 0 k false (p.1 + 1, p.2)).1) (PX R n L N 0 k false (p.1 + 1, p.2)).2 else (b, p) := by
  rw [PX_500 2 k b p, pX2 499]
  by_cases c : pAt R n p 38 = true
  · have := pAt_lt c
    have h1 : (p.1 + 1, p.2).1 ≤ n := by show p.1 + 1 ≤ n; omega
    rw [if_pos c, if_pos c, PX_499 (t := 0) hn (by omega) h1, PX_499 (t := 2) hn (by omega) (PX_mon h1).2]
  · rw [if_neg c, if_neg c]
theorem PX3 (hn : n ≤ 100) {k : Nat} {b : Bool} {p : PP} (h : p.1 ≤ n) : PX R n L N 3 k b p = PX R n L N 4 k (PX R n L N 1 k false p).1 (PX R n L N 1 k false p).2 := by
  rw [PX_500 3 k b p, pX3 499, PX_499 (t := 1) hn (by omega) h, PX_499 (t := 4) hn (by omega) (PX_mon h).2]
theorem PX4 (hn : n ≤ 100) {k : Nat} {b : Bool} {p : PP} (h : p.1 ≤ n) : PX R n L N 4 k b p = if pAt R n p 124 = true then PX R n L N 4 k (b || (PX R n L N 1 k false (p.1 + 1, p.2)).1) (PX R n L N 1 k false (p.1 + 1, p.2)).2 else (b, p) := by
  rw [PX_500 4 k b p, pX4 499]
  by_cases c : pAt R n p 124 = true
  · have := pAt_lt c
    have h1 : (p.1 + 1, p.2).1 ≤ n := by show p.1 + 1 ≤ n; omega
    rw [if_pos c, if_pos c, PX_499 (t := 1) hn (by omega) h1, PX_499 (t := 4) hn (by omega) (PX_mon h1).2]
  · rw [if_neg c, if_neg c]
/-- where one stands doesn't hang on the names, nor on what was true -/
theorem pTest_pos (p : PP) : (pTest R n L N p).2 = (pTest R n L N' p).2 := by
  unfold pTest
  split <;> rfl
theorem pX_pos : ∀ (f t k : Nat) (b b' : Bool) (p : PP), t ≤ 4 → (pX R n L N f t k b p).2 = (pX R n L N' f t k b' p).2
  | 0, t, k, b, b', p, _ => rfl
  | f + 1, 0, k, b, b', p, _ => by
    rw [pX0, pX0]
    split
    · exact pX_pos f 0 (k + 1) false false _ (by omega)
    · split
      · show pTk R n _ 41 = pTk R n _ 41
        rw [pX_pos f 3 (k + 1) false false _ (by omega)]
      · exact pTest_pos p
  | f + 1, 1, k, b, b', p, _ => by
    rw [pX1, pX1, pX_pos f 0 k false false p (by omega)]
    exact pX_pos f 2 k _ _ _ (by omega)
  | f + 1, 2, k, b, b', p, _ => by
    rw [pX2, pX2]
    split
    · rw [pX_pos f 0 k false false _ (by omega)]
      exact pX_pos f 2 k _ _ _ (by omega)
    · rfl
  | f + 1, 3, k, b, b', p, _ => by
    rw [pX3, pX3, pX_pos f 1 k false false p (by omega)]
    exact pX_pos f 4 k _ _ _ (by omega)
  | f + 1, 4, k, b, b', p, _ => by
    rw [pX4, pX4]
    split
    · rw [pX_pos f 1 k false false _ (by omega)]
      exact pX_pos f 4 k _ _ _ (by omega)
    · rfl
  | f + 1, t + 5, k, b, b', p, ht => absurd ht (by omega)
theorem PX_pos {t k : Nat} {b b' : Bool} {p : PP} (ht : t ≤ 4) : (PX R n L N t k b p).2 = (PX R n L N' t k b' p).2 := pX_pos fu t k b b' p ht
theorem pAt_no {p : PP} {c : Int32} (h : p.2 = false) : pAt R n p c = false := by simp [pAt, h]
theorem pTk_no {p : PP} {c : Int32} (h : p.2 = false) : pTk R n p c = p := by
  unfold pTk
  rw [pAt_no h]
  obtain ⟨a, b⟩ := p
  subst h
  rfl
theorem pNum_no {p : PP} (h : p.2 = false) : pNum R n p = (0, p) := by
  unfold pNum
  rw [show pDg R n p = false by simp [pDg, h]]
  obtain ⟨a, b⟩ := p
  subst h
  rfl
theorem pNm_no {p : PP} (h : p.2 = false) : ∀ k, pNm R n L p k = -1
  | 0 => rfl
  | k + 1 => by rw [pNm, pAt_no h]; exact pNm_no h k
theorem pTest_no {p : PP} (h : p.2 = false) : (pTest R n L N p).2 = p := by
  unfold pTest
  rw [if_pos (pNm_no h 6)]
  obtain ⟨a, b⟩ := p
  subst h
  rfl
theorem pX_no : ∀ (f t k : Nat) (b : Bool) (p : PP), t ≤ 4 → p.2 = false → (pX R n L N f t k b p).2 = p
  | 0, t, k, b, p, _, _ => rfl
  | f + 1, 0, k, b, p, _, h => by
    rw [pX0, pAt_no h, pAt_no h]
    simp only [Bool.false_eq_true, and_false, if_false]
    exact pTest_no h
  | f + 1, 1, k, b, p, _, h => by
    rw [pX1, pX_no f 0 k false p (by omega) h]
    exact pX_no f 2 k _ p (by omega) h
  | f + 1, 2, k, b, p, _, h => by
    rw [pX2, pAt_no h]
    rfl
  | f + 1, 3, k, b, p, _, h => by
    rw [pX3, pX_no f 1 k false p (by omega) h]
    exact pX_no f 4 k _ p (by omega) h
  | f + 1, 4, k, b, p, _, h => by
    rw [pX4, pAt_no h]
    rfl
  | f + 1, t + 5, k, b, p, ht, _ => absurd ht (by omega)
/-! what steps are worth -/
def enc (so l k : Nat) : Int32 := ((nI k <<< (8 &&& 31)) ||| (nI l <<< (4 &&& 31))) ||| nI so
theorem enc_b : ∀ so ∈ List.range 8, ∀ l ∈ List.range 6, ∀ k ∈ List.range 100, enc so l k &&& 15 = nI so ∧ (enc so l k >>> (4 &&& 31)) &&& 15 = nI l ∧ enc so l k >>> (8 &&& 31) = nI k := by decide +kernel
theorem enc_d {so l k : Nat} (h1 : so < 8) (h2 : l < 6) (h3 : k < 100) : enc so l k &&& 15 = nI so ∧ (enc so l k >>> (4 &&& 31)) &&& 15 = nI l ∧ enc so l k >>> (8 &&& 31) = nI k := enc_b so (List.mem_range.mpr h1) l (List.mem_range.mpr h2) k (List.mem_range.mpr h3)
theorem bL_c : ∀ a ∈ List.range 64, ∀ e ∈ List.range 64, ∀ b : Bool, (nI (64 * a + e) <<< (1 &&& 31)) ||| (if b = true then 1 else 0) = nI (2 * (64 * a + e) + b.toNat) := by decide +kernel
theorem bL_b {H : Nat} (hH : H < 4096) : ∀ b : Bool, (nI H <<< (1 &&& 31)) ||| (if b = true then 1 else 0) = nI (2 * H + b.toNat) := by
  have z := bL_c (H / 64) (List.mem_range.mpr (by omega)) (H % 64) (List.mem_range.mpr (by omega))
  rw [show 64 * (H / 64) + H % 64 = H by omega] at z
  exact z
theorem bN_c : ∀ a ∈ List.range 64, ∀ e ∈ List.range 64, ∀ b : Bool, nI (2 * (64 * a + e) + b.toNat) ^^^ 1 = nI (2 * (64 * a + e) + (!b).toNat) := by decide +kernel
theorem bN_b {H : Nat} (hH : H < 4096) : ∀ b : Bool, nI (2 * H + b.toNat) ^^^ 1 = nI (2 * H + (!b).toNat) := by
  have z := bN_c (H / 64) (List.mem_range.mpr (by omega)) (H % 64) (List.mem_range.mpr (by omega))
  rw [show 64 * (H / 64) + H % 64 = H by omega] at z
  exact z
theorem bA_c : ∀ a ∈ List.range 64, ∀ e ∈ List.range 64, ∀ b c : Bool, (nI (2 * (2 * (64 * a + e) + b.toNat) + c.toNat) >>> (1 &&& 31)) &&& ((nI (2 * (2 * (64 * a + e) + b.toNat) + c.toNat) &&& 1) ||| -2) = nI (2 * (64 * a + e) + (b && c).toNat) := by decide +kernel
theorem bA_b {H : Nat} (hH : H < 4096) : ∀ b c : Bool, (nI (2 * (2 * H + b.toNat) + c.toNat) >>> (1 &&& 31)) &&& ((nI (2 * (2 * H + b.toNat) + c.toNat) &&& 1) ||| -2) = nI (2 * H + (b && c).toNat) := by
  have z := bA_c (H / 64) (List.mem_range.mpr (by omega)) (H % 64) (List.mem_range.mpr (by omega))
  rw [show 64 * (H / 64) + H % 64 = H by omega] at z
  exact z
theorem bO_c : ∀ a ∈ List.range 64, ∀ e ∈ List.range 64, ∀ b c : Bool, (nI (2 * (2 * (64 * a + e) + b.toNat) + c.toNat) >>> (1 &&& 31)) ||| (nI (2 * (2 * (64 * a + e) + b.toNat) + c.toNat) &&& 1) = nI (2 * (64 * a + e) + (b || c).toNat) := by decide +kernel
theorem bO_b {H : Nat} (hH : H < 4096) : ∀ b c : Bool, (nI (2 * (2 * H + b.toNat) + c.toNat) >>> (1 &&& 31)) ||| (nI (2 * (2 * H + b.toNat) + c.toNat) &&& 1) = nI (2 * H + (b || c).toNat) := by
  have z := bO_c (H / 64) (List.mem_range.mpr (by omega)) (H % 64) (List.mem_range.mpr (by omega))
  rw [show 64 * (H / 64) + H % 64 = H by omega] at z
  exact z
theorem cA_t {so l k H : Nat} {N : Nat → Int32} {t : Int32} (h1 : so < 3) (h2 : l < 6) (h3 : k < 100) (hH : H < 4096) : cA1 (enc so l k) N (t, nI H) = (t, nI (2 * H + (if so = 0 then decide (N l < nI k) else if so = 1 then decide (N l = nI k) else decide (nI k < N l)).toNat)) := by
  obtain ⟨e1, e2, e3⟩ := enc_d (so := so) (l := l) (k := k) (by omega) h2 h3
  have z : (if nI l < 6 then N (nI l).toNatClampNeg else 0) = N l := by rw [if_pos (show nI l < 6 from (nI_ltI (b := 6) (by omega) (by omega)).mpr h2), nI_clamp (by omega)]
  unfold cA1
  rw [e1, e2, e3, z]
  rcases (by omega : so = 0 ∨ so = 1 ∨ so = 2) with rfl | rfl | rfl
  · show _ = (t, nI (2 * H + (decide (N l < nI k)).toNat))
    rw [if_pos (show nI 0 = 0 by decide), ← bL_b hH]
    simp only [decide_eq_true_eq]
  · show _ = (t, nI (2 * H + (decide (N l = nI k)).toNat))
    rw [if_neg (show ¬ nI 1 = 0 by decide), if_pos (show nI 1 = 1 by decide), ← bL_b hH]
    simp only [decide_eq_true_eq]
  · show _ = (t, nI (2 * H + (decide (nI k < N l)).toNat))
    rw [if_neg (show ¬ nI 2 = 0 by decide), if_neg (show ¬ nI 2 = 1 by decide), if_pos (show nI 2 = 2 by decide), ← bL_b hH]
    simp only [decide_eq_true_eq]
theorem cA_n {H : Nat} {b : Bool} {N : Nat → Int32} {t : Int32} (hH : H < 4096) : cA1 (enc 3 0 0) N (t, nI (2 * H + b.toNat)) = (t, nI (2 * H + (!b).toNat)) := by
  rw [← bN_b hH]
  rfl
theorem cA_a {H : Nat} {b c : Bool} {N : Nat → Int32} {t : Int32} (hH : H < 4096) : cA1 (enc 4 0 0) N (t, nI (2 * (2 * H + b.toNat) + c.toNat)) = (t, nI (2 * H + (b && c).toNat)) := by
  rw [← bA_b hH]
  rfl
theorem cA_o {H : Nat} {b c : Bool} {N : Nat → Int32} {t : Int32} (hH : H < 4096) : cA1 (enc 5 0 0) N (t, nI (2 * (2 * H + b.toNat) + c.toNat)) = (t, nI (2 * H + (b || c).toNat)) := by
  rw [← bO_b hH]
  rfl
theorem cA_s {so k : Nat} {b : Bool} {N : Nat → Int32} {t : Int32} (hs : so = 6 ∨ so = 7) (hk : k < 100) : cA1 (enc so 0 k) N (t, nI b.toNat) = (t + (if b = true then (if so = 6 then nI k else -nI k) else 0), nI 0) := by
  obtain ⟨e1, e2, e3⟩ := enc_d (so := so) (l := 0) (k := k) (by omega) (by omega) hk
  unfold cA1
  rw [e1, e3]
  rcases hs with rfl | rfl
  · show _ = (t + (if b = true then nI k else 0), nI 0)
    rw [if_neg (show ¬ nI 6 = 0 by decide), if_neg (show ¬ nI 6 = 1 by decide), if_neg (show ¬ nI 6 = 2 by decide), if_neg (show ¬ nI 6 = 3 by decide), if_neg (show ¬ nI 6 = 4 by decide), if_neg (show ¬ nI 6 = 5 by decide), if_pos (show nI 6 = 6 by decide)]
    cases b
    · simp only [Bool.toNat_false, Bool.false_eq_true, if_false]
      rw [show (nI 0 &&& (1 : Int32)) = 0 from by decide, show nI 0 >>> ((1 : Int32) &&& 31) = nI 0 from by decide, Int32.zero_mul]
    · simp only [Bool.toNat_true, if_true]
      rw [show (nI 1 &&& (1 : Int32)) = 1 from by decide, show nI 1 >>> ((1 : Int32) &&& 31) = nI 0 from by decide, Int32.one_mul]
  · show _ = (t + (if b = true then -nI k else 0), nI 0)
    rw [if_neg (show ¬ nI 7 = 0 by decide), if_neg (show ¬ nI 7 = 1 by decide), if_neg (show ¬ nI 7 = 2 by decide), if_neg (show ¬ nI 7 = 3 by decide), if_neg (show ¬ nI 7 = 4 by decide), if_neg (show ¬ nI 7 = 5 by decide), if_neg (show ¬ nI 7 = 6 by decide), if_pos (show nI 7 = 7 by decide)]
    cases b
    · simp only [Bool.toNat_false, Bool.false_eq_true, if_false]
      rw [show (nI 0 &&& (1 : Int32)) = 0 from by decide, show nI 0 >>> ((1 : Int32) &&& 31) = nI 0 from by decide, Int32.zero_mul, Int32.sub_zero, Int32.add_zero]
    · simp only [Bool.toNat_true, if_true]
      rw [show (nI 1 &&& (1 : Int32)) = 1 from by decide, show nI 1 >>> ((1 : Int32) &&& 31) = nI 0 from by decide, Int32.one_mul, Int32.sub_eq_add_neg]
abbrev run (N : Nat → Int32) (c : List Int32) (x : Int32 × Int32) : Int32 × Int32 := c.foldl (fun x s => cA1 s N x) x
/-- steps that lay B on what lies there, w deep at most -/
def Ev (c : List Int32) (B : (Nat → Int32) → Bool) (w : Nat) : Prop := ∀ (N : Nat → Int32) (t : Int32) (H j : Nat), H < 2 ^ j → j + w ≤ 12 → run N c (t, nI H) = (t, nI (2 * H + (B N).toNat))
def EvL (c : List Int32) (wt : Bool) (O B : (Nat → Int32) → Bool) (w : Nat) : Prop := ∀ (N : Nat → Int32) (t : Int32) (H j : Nat), H < 2 ^ j → j + w ≤ 12 → run N c (t, nI H) = (t, nI (if wt = true then 2 * (2 * H + (O N).toNat) + (B N).toNat else 2 * H + (B N).toNat))
theorem pw12 {H j : Nat} (h : H < 2 ^ j) (hj : j ≤ 12) : H < 4096 := Nat.lt_of_lt_of_le h (Nat.pow_le_pow_right (by omega) hj)
theorem bnat (b : Bool) : b.toNat ≤ 1 := by cases b <;> decide
theorem pw_s {H j : Nat} (b : Bool) (h : H < 2 ^ j) : 2 * H + b.toNat < 2 ^ (j + 1) := by
  have := bnat b
  rw [Nat.pow_succ]
  omega
theorem Ev.le {c : List Int32} {B : (Nat → Int32) → Bool} {w w' : Nat} (h : Ev c B w) (hw : w ≤ w') : Ev c B w' := fun N t H j h1 h2 => h N t H j h1 (by omega)
theorem Ev.eq {c : List Int32} {B B' : (Nat → Int32) → Bool} {w : Nat} (h : Ev c B w) (hB : ∀ N, B N = B' N) : Ev c B' w := fun N t H j h1 h2 => by rw [← hB N]; exact h N t H j h1 h2
theorem Ev.not {c : List Int32} {B : (Nat → Int32) → Bool} {w : Nat} (h : Ev c B w) : Ev (c ++ [enc 3 0 0]) (fun N => !B N) w := fun N t H j h1 h2 => by
  rw [run, List.foldl_append, show c.foldl (fun x s => cA1 s N x) (t, nI H) = _ from h N t H j h1 h2]
  exact cA_n (N := N) (pw12 h1 (by omega))
theorem Ev.toL {c : List Int32} {B O : (Nat → Int32) → Bool} {w : Nat} (h : Ev c B w) : EvL c false O B (w + 2) := fun N t H j h1 h2 => h N t H j h1 (by omega)
theorem EvL.and {c c1 : List Int32} {wt : Bool} {O B V : (Nat → Int32) → Bool} {w : Nat} (h : EvL c wt O B (w + 2)) (hV : Ev c1 V w) : EvL (c ++ c1 ++ [enc 4 0 0]) wt O (fun N => B N && V N) (w + 2) := fun N t H j h1 h2 => by
  rw [run, List.foldl_append, List.foldl_append, show c.foldl (fun x s => cA1 s N x) (t, nI H) = _ from h N t H j h1 h2]
  cases wt
  · simp only [Bool.false_eq_true, if_false]
    rw [show c1.foldl (fun x s => cA1 s N x) _ = _ from hV N t _ (j + 1) (pw_s _ h1) (by omega)]
    exact cA_a (N := N) (pw12 h1 (by omega))
  · simp only [if_true]
    rw [show c1.foldl (fun x s => cA1 s N x) _ = _ from hV N t _ (j + 1 + 1) (pw_s _ (pw_s _ h1)) (by omega)]
    exact cA_a (N := N) (pw12 (pw_s _ h1) (by omega))
theorem EvL.fin {c : List Int32} {wt : Bool} {O B : (Nat → Int32) → Bool} {w : Nat} (h : EvL c wt O B (w + 2)) : Ev (if wt = true then c ++ [enc 5 0 0] else c) (fun N => (wt && O N) || B N) (w + 2) := fun N t H j h1 h2 => by
  cases wt
  · simp only [Bool.false_eq_true, if_false, Bool.false_and, Bool.false_or]
    exact h N t H j h1 h2
  · simp only [if_true, Bool.true_and]
    rw [run, List.foldl_append, show c.foldl (fun x s => cA1 s N x) (t, nI H) = _ from h N t H j h1 h2]
    exact cA_o (N := N) (pw12 h1 (by omega))
theorem EvL.or {c c1 : List Int32} {wt : Bool} {O B V : (Nat → Int32) → Bool} {w : Nat} (h : EvL c wt O B (w + 2)) (hV : Ev c1 V w) : EvL ((if wt = true then c ++ [enc 5 0 0] else c) ++ c1) true (fun N => (wt && O N) || B N) V (w + 2) := fun N t H j h1 h2 => by
  rw [run, List.foldl_append, show (if wt = true then c ++ [enc 5 0 0] else c).foldl (fun x s => cA1 s N x) (t, nI H) = _ from h.fin N t H j h1 h2]
  exact hV N t _ (j + 1) (pw_s _ h1) (by omega)
end P52
