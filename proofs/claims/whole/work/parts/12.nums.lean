/-! numbers -/
theorem zb_eq0 {b : Bool} : zb b = 0 ↔ b = false := by cases b <;> decide
theorem zb_ne0 {b : Bool} : ¬ zb b = 0 ↔ b = true := by cases b <;> decide
theorem zb_eq1 {b : Bool} : zb b = 1 ↔ b = true := by cases b <;> decide
theorem nIl (n : Nat) : (OfNat.ofNat n : Int32) = nI n := rfl
theorem nI_m1 {m : Nat} : nI (m + 1) - 1 = nI m := nI_pred m
/-- a number that is one of 0 .. N - 1 -/
theorem bIn_iff {t : Int32} {lo hi : Int32} : bIn t lo hi = true ↔ lo ≤ t ∧ t ≤ hi := by simp [bIn]
theorem bIn_toInt {t lo hi : Int32} : bIn t lo hi = true ↔ lo.toInt ≤ t.toInt ∧ t.toInt ≤ hi.toInt := by
  rw [bIn_iff, Int32.le_iff_toInt_le, Int32.le_iff_toInt_le]
theorem bIn_lit {t : Int32} {N : Nat} (hN : N < 2 ^ 31) : bIn t 0 (nI N) = true ↔ ∃ i, i ≤ N ∧ t = nI i := by
  rw [bIn_toInt, nI_toInt hN, show (0 : Int32).toInt = 0 from by decide]
  constructor
  · rintro ⟨h1, h2⟩
    refine ⟨t.toInt.toNat, by omega, ?_⟩
    apply Int32.toInt_inj.mp
    rw [nI_toInt (by omega)]
    omega
  · rintro ⟨i, hi, rfl⟩
    rw [nI_toInt (by omega)]
    omega
theorem bIn_one {t : Int32} {m : Nat} (hm : m ≤ 6) : bIn t 0 (nI m - 1) = true ↔ ∃ i, i < m ∧ t = nI i := by
  cases m with
  | zero =>
    rw [bIn_toInt, show (nI 0 - 1).toInt = -1 from by decide, show (0 : Int32).toInt = 0 from by decide]
    constructor
    · rintro ⟨h1, h2⟩; omega
    · rintro ⟨i, hi, -⟩; omega
  | succ k =>
    rw [nI_m1, bIn_lit (by omega)]
    constructor
    · rintro ⟨i, hi, h⟩; exact ⟨i, by omega, h⟩
    · rintro ⟨i, hi, h⟩; exact ⟨i, by omega, h⟩
theorem cl_nI {n : Nat} (h : n < 2 ^ 31) : (nI n).toNatClampNeg = n := nI_clamp h
theorem nI_muladd (a b c : Nat) : nI a * nI b + nI c = nI (a * b + c) := by rw [pk_mul, nI_add]
/-- places of the model's row -/
theorem ix10 {i c : Nat} (h : 10 * i + c < 123) : (10 * nI i + nI c).toNatClampNeg = 10 * i + c ∧ vp_in (10 * nI i + nI c) 123 := by
  have e : 10 * nI i + nI c = nI (10 * i + c) := nI_muladd 10 i c
  rw [e]
  exact ⟨nI_clamp (by omega), vp_in_nI h (by omega)⟩
theorem ix10c {i c : Nat} (h : 10 * i + c < 123) : (10 * nI i + nI c).toNatClampNeg = 10 * i + c := (ix10 h).1
theorem ix10v {i c : Nat} (h : 10 * i + c < 123) : vp_in (10 * nI i + nI c) 123 := (ix10 h).2
theorem ix10a {i : Nat} (h : 10 * i < 123) : (10 * nI i).toNatClampNeg = 10 * i ∧ vp_in (10 * nI i) 123 := by
  have e : 10 * nI i = nI (10 * i) := pk_mul 10 i
  rw [e]
  exact ⟨nI_clamp (by omega), vp_in_nI h (by omega)⟩
theorem vpl {n N : Nat} (h : n < N) (hN : N < 2 ^ 31) : vp_in (nI n) N := vp_in_nI h hN
theorem i32_nlt {a b : Int32} : ¬ a < b ↔ b ≤ a := Int32.not_lt
theorem i32_nle {a b : Int32} : ¬ a ≤ b ↔ b < a := Int32.not_le
theorem upd_eq (f : Nat → Int32) (i : Nat) (x : Int32) : upd f i x i = x := pk_us
theorem upd_ne {f : Nat → Int32} {i j : Nat} {x : Int32} (h : j ≠ i) : upd f i x j = f j := pk_un h
theorem upd_if (f : Nat → Int32) (i j : Nat) (x : Int32) : upd f i x j = if j = i then x else f j := rfl
/-- the model with another row 'now' -/
def mg (U : MS) (g : Nat → Int32) : MS := (fun j => if j = 1 then g else U.1 j, U.2.1, U.2.2)
theorem mup_mg (U : MS) (i : Nat) (x : Int32) : mup U 1 i x = mg U (upd (U.1 1) i x) := rfl
theorem mg_1 (U : MS) (g : Nat → Int32) : (mg U g).1 1 = g := by simp [mg]
theorem mg_mg (U : MS) (g g' : Nat → Int32) : mg (mg U g) g' = mg U g' := by
  unfold mg
  congr 1
  funext j
  by_cases h : j = 1 <;> simp [h]
theorem mg_id (U : MS) : mg U (U.1 1) = U := by
  unfold mg
  obtain ⟨a, b, c⟩ := U
  congr 1
  funext j
  by_cases h : j = 1
  · subst h; simp
  · simp [h]
theorem mg_ne {U : MS} {g : Nat → Int32} {j : Nat} (h : j ≠ 1) : (mg U g).1 j = U.1 j := by simp [mg, h]
theorem MAt.gx {h : Hp} {u : Nat} {U : MS} {g g' : Nat → Int32} (hM : MAt h u (mg U g)) (he : ∀ i, i < 123 → g i = g' i) : MAt h u (mg U g') := by
  refine hM.ext (A := (mg U g').1) fun j h1 h2 i hi => ?_
  by_cases hj : j = 1
  · subst hj
    rw [mg_1, mg_1]
    exact he i hi
  · rw [mg_ne hj, mg_ne hj]
