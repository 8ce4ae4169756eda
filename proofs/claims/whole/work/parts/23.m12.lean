/-! the model: what a teller's sea says; what days keep -/
section M12
variable {l : Launch} {G : GT} {u : Nat} {U U' : MS} {d n : Nat} {h : Hp} {Q : Option Value → Hp → Prop} {R R' : Nat → Int32} {L N N' W : Nat → Int32}
/-! of a text of n bytes only those count -/
theorem pAt_ext (hR : ∀ k, k < n → R k = R' k) : pAt R n = pAt R' n := by
  funext p c
  unfold pAt
  by_cases h : p.1 < n
  · rw [hR _ h]
  · simp [h]
theorem pDg_ext (hR : ∀ k, k < n → R k = R' k) : pDg R n = pDg R' n := by
  funext p
  unfold pDg
  by_cases h : p.1 < n
  · rw [hR _ h]
  · simp [h]
theorem pTk_ext (hR : ∀ k, k < n → R k = R' k) : pTk R n = pTk R' n := by
  funext p c
  unfold pTk
  rw [pAt_ext hR]
theorem pNum_ext (hR : ∀ k, k < n → R k = R' k) : pNum R n = pNum R' n := by
  funext p
  unfold pNum
  rw [pDg_ext hR]
  by_cases h1 : pDg R' n p = true
  · rw [if_pos h1, if_pos h1, hR _ (pDg_lt h1)]
    by_cases h2 : pDg R' n (p.1 + 1, p.2) = true
    · rw [if_pos h2, if_pos h2, hR _ (pDg_lt h2)]
    · rw [if_neg h2, if_neg h2]
  · rw [if_neg h1, if_neg h1]
theorem pNm_ext (hR : ∀ k, k < n → R k = R' k) : pNm R n = pNm R' n := by
  funext L p k
  induction k with
  | zero => rfl
  | succ k ih => simp only [pNm, pAt_ext hR, ih]
theorem pNm_6 {L : Nat → Int32} {p : PP} {k : Nat} (h : pNm R n L p k ≠ -1) : ∃ j, j < k ∧ pNm R n L p k = nI j := (pNm_lt h).2
theorem pTest_ext (hR : ∀ k, k < n → R k = R' k) (hN : ∀ k, k < 6 → N k = N' k) : pTest R n L N = pTest R' n L N' := by
  funext p
  unfold pTest pCm
  simp only [pAt_ext hR, pNm_ext hR, pNum_ext hR, pTk_ext hR]
  split
  · rfl
  · rename_i z
    obtain ⟨j, h1, h2⟩ := pNm_6 z
    rw [h2, nI_clamp (by omega), hN j h1]
theorem pX_ext (hR : ∀ k, k < n → R k = R' k) (hN : ∀ k, k < 6 → N k = N' k) : ∀ f, pX R n L N f = pX R' n L N' f := by
  intro f
  induction f with
  | zero => funext t k b p; simp only [pX]
  | succ f ih =>
    funext t k b p
    match t with
    | 0 => simp only [pX, ih, pAt_ext hR, pTk_ext hR, pTest_ext hR hN]
    | 1 => simp only [pX, ih]
    | 2 => simp only [pX, ih, pAt_ext hR]
    | 3 => simp only [pX, ih]
    | t + 4 => simp only [pX, ih, pAt_ext hR]
theorem pTl_ext (hR : ∀ k, k < n → R k = R' k) (hN : ∀ k, k < 6 → N k = N' k) : pTl R n L N = pTl R' n L N' := by
  funext w c
  unfold pTl
  simp only [pNum_ext hR, pTk_ext hR, pX_ext hR hN]
theorem pWl_ext (hR : ∀ k, k < n → R k = R' k) : pWl R n W = pWl R' n W := by
  funext w j k p
  induction j generalizing k p with
  | zero => rfl
  | succ j ih => simp only [pWl, ih, pTk_ext hR]
theorem pWh_ext (hR : ∀ k, k < n → R k = R' k) : pWh R n = pWh R' n := by
  funext p
  unfold pWh
  rw [pAt_ext hR]
  by_cases h : p.1 + 1 < n
  · rw [hR _ h]
  · simp [h]
theorem pCl_ext (hR : ∀ k, k < n → R k = R' k) (hN : ∀ k, k < 6 → N k = N' k) : pCl R n L N W = pCl R' n L N' W := by
  funext c
  unfold pCl
  rw [pTl_ext hR hN, pWl_ext hR, pWh_ext hR]
theorem pRA_ext (hR : ∀ k, k < n → R k = R' k) (hN : ∀ k, k < 6 → N k = N' k) : pRA R n L N W = pRA R' n L N' W := by
  have e : ∀ j c, pRl R n L N W j c = pRl R' n L N' W j c := by
    intro j
    induction j with
    | zero => intro c; rfl
    | succ j ih => intro c; simp only [pRl, ih, pAt_ext hR, pCl_ext hR hN]
  unfold pRA
  rw [e, pCl_ext hR hN, hN 3 (by omega)]
/-! what calls that only look on keep of the model -/
def msv (n j : Nat) : Prop := ¬ (j = 1 ∨ j = 7 ∨ j = 8 ∨ (1 ≤ n ∧ j = 2) ∨ (2 ≤ n ∧ j = 11))
def MK (n : Nat) (g : Nat → Int32) (U U' : MS) : Prop := U'.1 1 = g ∧ (∀ j, msv n j → U'.1 j = U.1 j) ∧ (∀ k, k < 10 ∨ 15 < k → U'.2.1 k = U.2.1 k) ∧ U'.2.2 = U.2.2
theorem MK.rf {U : MS} : MK n (U.1 1) U U := ⟨rfl, fun _ _ => rfl, fun _ _ => rfl, rfl⟩
theorem MK.tr {n : Nat} {g g' : Nat → Int32} {U U1 U2 : MS} (a : MK n g U U1) (b : MK n g' U1 U2) : MK n g' U U2 :=
  ⟨b.1, fun j hj => (b.2.1 j hj).trans (a.2.1 j hj), fun k hk => (b.2.2.1 k hk).trans (a.2.2.1 k hk), b.2.2.2.trans a.2.2.2⟩
theorem MK.le {n n' : Nat} {g : Nat → Int32} {U U1 : MS} (a : MK n g U U1) (hn : n ≤ n') : MK n' g U U1 :=
  ⟨a.1, fun j hj => a.2.1 j (by unfold msv at hj ⊢; omega), a.2.2⟩
theorem MK.up {n k : Nat} {x : Int32} {g : Nat → Int32} {U U1 : MS} (a : MK n g U U1) : MK n (upd g k x) U (mup U1 1 k x) :=
  ⟨by rw [mup1, a.1], fun j hj => by
    show (if j = 1 then _ else U1.1 j) = _
    rw [if_neg (by unfold msv at hj; omega)]
    exact a.2.1 j hj, a.2.2⟩
theorem MK.ar {n : Nat} {g : Nat → Int32} {U U1 : MS} (a : MK n g U U1) {j : Nat} (hj : msv n j) : U1.1 j = U.1 j := a.2.1 j hj
theorem MK.gx {g g' : Nat → Int32} {U U1 : MS} {n : Nat} (a : MK n g U U1) (hM : MAt h u U1) (he : ∀ i, i < 123 → g i = g' i) : ∃ U2, MAt h u U2 ∧ MK n g' U U2 := by
  refine ⟨mg U1 g', ?_, ?_⟩
  · have z : MAt h u (mg U1 (U1.1 1)) := by rw [mg_id]; exact hM
    refine z.gx fun i hi => ?_
    rw [a.1]; exact he i hi
  · refine ⟨mg_1 _ _, fun j hj => ?_, a.2.2⟩
    rw [mg_ne (by unfold msv at hj; omega)]
    exact a.2.1 j hj
/-- what the sea adds to and its room, as the model reads it anew each time -/
def jr (a b : Int32) : Int32 := a - a / b * b
def mNm (g : Nat → Int32) (i : Nat) : Nat → Int32 := fun j => if j = 0 then nI i else if j = 1 then g (10 * i) else if j = 2 then g (10 * i + 1) else if j = 3 then g (10 * i + 2) else if j = 4 then jr (g (10 * i + 4)) 10 else jr (g 67) 10
def mRd (U : MS) (g : Nat → Int32) (i : Nat) : Int32 × Int32 := if g 68 = 0 then (g (10 * i + 2), 30) else (pRA (fun k => U.1 5 (100 * (g 68 - 1).toNatClampNeg + k)) (U.1 6 (g 68 - 1).toNatClampNeg).toNatClampNeg (U.1 9) (mNm g i) (U.1 10)).2
theorem MAt.nm {g : Nat → Int32} {i : Nat} {a0 a1 a2 a3 a4 a5 : Int32} (hM : MAt h u (mup (mup (mup (mup (mup (mup U 8 0 a0) 8 1 a1) 8 2 a2) 8 3 a3) 8 4 a4) 8 5 a5)) (h0 : a0 = nI i) (h1 : a1 = g (10 * i)) (h2 : a2 = g (10 * i + 1)) (h3 : a3 = g (10 * i + 2)) (h4 : a4 = jr (g (10 * i + 4)) 10) (h5 : a5 = jr (g 67) 10) : MAt h u (mset U 8 (mNm g i)) := by
  subst h0 h1 h2 h3 h4 h5
  simp only [mup_mset, mset_set, mset_eq] at hM
  refine hM.gs fun q hq => ?_
  rcases (show q = 0 ∨ q = 1 ∨ q = 2 ∨ q = 3 ∨ q = 4 ∨ q = 5 from by have : q < 6 := hq; omega) with rfl | rfl | rfl | rfl | rfl | rfl <;> simp [upd, mNm]
theorem mRd_k {n : Nat} {g g' : Nat → Int32} {U U1 : MS} (a : MK n g' U U1) (i : Nat) : mRd U1 g i = mRd U g i := by
  unfold mRd
  rw [a.2.1 5 (by unfold msv; omega), a.2.1 6 (by unfold msv; omega), a.2.1 9 (by unfold msv; omega), a.2.1 10 (by unfold msv; omega)]
/-- the charted texts' sizes -/
def mZ (U : MS) : Prop := ∀ r, r < 6 → ∃ n, n ≤ 100 ∧ U.1 6 r = nI n
theorem mZ.k {n : Nat} {g : Nat → Int32} {U U1 : MS} (hz : mZ U) (a : MK n g U U1) : mZ U1 := by
  unfold mZ
  rw [a.2.1 6 (by unfold msv; omega)]
  exact hz
/-- the row: m tellers, day t, a charted text or none -/
def gOk (g : Nat → Int32) (m t : Nat) : Prop := g 60 = nI m ∧ m ≤ 6 ∧ g 67 = nI t ∧ t ≤ 1073741824 ∧ ∃ q, q ≤ 6 ∧ g 68 = nI q
theorem c_one (hM : MAt h u U) (i c : Nat) (hi : 10 * i + c < 123) (hd : 0 ≤ d) : Ct l G mX7_one yX7_one d 0 0 [.ref u, .int (nI i), .int (nI c)] h (fun r h' => r = some (.int (U.1 1 (10 * i + c))) ∧ h' = h) := by
  have z := c_X7_one (l := l) (G := G) (d := d) hM (nI i) (nI c) (ix10 hi).2 hd
  rw [show mi U (nI i) (nI c) = U.1 1 (10 * i + c) by rw [mi, (ix10 hi).1]] at z
  exact z
theorem c_isAs (hM : MAt h u U) (i : Nat) (st : Int32) (hi : 10 * i + 3 < 123) (hd : 1 ≤ d) : Ct l G mX7_isAs yX7_isAs d 0 0 [.ref u, .int (nI i), .int st] h (fun r h' => r = some (.int (zb (decide (U.1 1 (10 * i + 3) = st)))) ∧ h' = h) := by
  have z := c_X7_isAs (l := l) (G := G) (d := d) hM (nI i) st (ix10 (c := 3) hi).2 hd
  rw [show mi U (nI i) 3 = U.1 1 (10 * i + 3) by rw [mi]; exact congrArg (U.1 1) (ix10 (c := 3) hi).1] at z
  exact z
theorem c_change (hM : MAt h u U) (i c : Nat) (x : Int32) (hi : 10 * i + c < 123) (hd : 1 ≤ d) : Ct l G mX7_change yX7_change d 0 0 [.ref u, .int (nI i), .int (nI c), .int x] h (fun r h' => r = some (.int (U.1 1 (10 * i + c))) ∧ MAt h' u (mup U 1 (10 * i + c) x) ∧ Same u 19 h h') := by
  have z := c_X7_change (l := l) (G := G) (d := d) hM (nI i) (nI c) x (ix10 hi).2 hd
  rw [show mi U (nI i) (nI c) = U.1 1 (10 * i + c) by rw [mi, (ix10 hi).1], (ix10 hi).1] at z
  exact z
theorem ix100 {r k : Nat} (h : 100 * r + k < 600) : (100 * nI r + nI k).toNatClampNeg = 100 * r + k ∧ vp_in (100 * nI r + nI k) 600 := by
  have e : 100 * nI r + nI k = nI (100 * r + k) := nI_muladd 100 r k
  rw [e]
  exact ⟨nI_clamp (by omega), vp_in_nI h (by omega)⟩

abbrev mX7_readFor : MT := (RX7, cX7_readFor, 4, none, false)
theorem eX7_readFor_0 : decode mX7_readFor.2.1 0 = .ok (.aload_n 0, 1) := by decide +kernel
theorem eX7_readFor_1 : decode mX7_readFor.2.1 1 = .ok (.getfield 37, 3) := by decide +kernel
theorem eX7_readFor_4 : decode mX7_readFor.2.1 4 = .ok (.iconst 0, 1) := by decide +kernel
theorem eX7_readFor_5 : decode mX7_readFor.2.1 5 = .ok (.iload_n 1, 1) := by decide +kernel
theorem eX7_readFor_6 : decode mX7_readFor.2.1 6 = .ok (.iastore, 1) := by decide +kernel
theorem eX7_readFor_7 : decode mX7_readFor.2.1 7 = .ok (.aload_n 0, 1) := by decide +kernel
theorem eX7_readFor_8 : decode mX7_readFor.2.1 8 = .ok (.getfield 37, 3) := by decide +kernel
theorem eX7_readFor_11 : decode mX7_readFor.2.1 11 = .ok (.iconst 1, 1) := by decide +kernel
theorem eX7_readFor_12 : decode mX7_readFor.2.1 12 = .ok (.aload_n 0, 1) := by decide +kernel
theorem eX7_readFor_13 : decode mX7_readFor.2.1 13 = .ok (.iload_n 1, 1) := by decide +kernel
theorem eX7_readFor_14 : decode mX7_readFor.2.1 14 = .ok (.iconst 0, 1) := by decide +kernel
theorem eX7_readFor_15 : decode mX7_readFor.2.1 15 = .ok (.invokevirtual 84, 3) := by decide +kernel
theorem eX7_readFor_18 : decode mX7_readFor.2.1 18 = .ok (.iastore, 1) := by decide +kernel
theorem eX7_readFor_19 : decode mX7_readFor.2.1 19 = .ok (.aload_n 0, 1) := by decide +kernel
theorem eX7_readFor_20 : decode mX7_readFor.2.1 20 = .ok (.getfield 37, 3) := by decide +kernel
theorem eX7_readFor_23 : decode mX7_readFor.2.1 23 = .ok (.iconst 2, 1) := by decide +kernel
theorem eX7_readFor_24 : decode mX7_readFor.2.1 24 = .ok (.aload_n 0, 1) := by decide +kernel
theorem eX7_readFor_25 : decode mX7_readFor.2.1 25 = .ok (.iload_n 1, 1) := by decide +kernel
theorem eX7_readFor_26 : decode mX7_readFor.2.1 26 = .ok (.iconst 1, 1) := by decide +kernel
theorem eX7_readFor_27 : decode mX7_readFor.2.1 27 = .ok (.invokevirtual 84, 3) := by decide +kernel
theorem eX7_readFor_30 : decode mX7_readFor.2.1 30 = .ok (.iastore, 1) := by decide +kernel
theorem eX7_readFor_31 : decode mX7_readFor.2.1 31 = .ok (.aload_n 0, 1) := by decide +kernel
theorem eX7_readFor_32 : decode mX7_readFor.2.1 32 = .ok (.getfield 37, 3) := by decide +kernel
theorem eX7_readFor_35 : decode mX7_readFor.2.1 35 = .ok (.iconst 3, 1) := by decide +kernel
theorem eX7_readFor_36 : decode mX7_readFor.2.1 36 = .ok (.aload_n 0, 1) := by decide +kernel
theorem eX7_readFor_37 : decode mX7_readFor.2.1 37 = .ok (.iload_n 1, 1) := by decide +kernel
theorem eX7_readFor_38 : decode mX7_readFor.2.1 38 = .ok (.iconst 2, 1) := by decide +kernel
theorem eX7_readFor_39 : decode mX7_readFor.2.1 39 = .ok (.invokevirtual 84, 3) := by decide +kernel
theorem eX7_readFor_42 : decode mX7_readFor.2.1 42 = .ok (.iastore, 1) := by decide +kernel
theorem eX7_readFor_43 : decode mX7_readFor.2.1 43 = .ok (.aload_n 0, 1) := by decide +kernel
theorem eX7_readFor_44 : decode mX7_readFor.2.1 44 = .ok (.getfield 37, 3) := by decide +kernel
theorem eX7_readFor_47 : decode mX7_readFor.2.1 47 = .ok (.iconst 4, 1) := by decide +kernel
theorem eX7_readFor_48 : decode mX7_readFor.2.1 48 = .ok (.aload_n 0, 1) := by decide +kernel
theorem eX7_readFor_49 : decode mX7_readFor.2.1 49 = .ok (.iload_n 1, 1) := by decide +kernel
theorem eX7_readFor_50 : decode mX7_readFor.2.1 50 = .ok (.iconst 4, 1) := by decide +kernel
theorem eX7_readFor_51 : decode mX7_readFor.2.1 51 = .ok (.invokevirtual 84, 3) := by decide +kernel
theorem eX7_readFor_54 : decode mX7_readFor.2.1 54 = .ok (.bipush 10, 2) := by decide +kernel
theorem eX7_readFor_56 : decode mX7_readFor.2.1 56 = .ok (.irem, 1) := by decide +kernel
theorem eX7_readFor_57 : decode mX7_readFor.2.1 57 = .ok (.iastore, 1) := by decide +kernel
theorem eX7_readFor_58 : decode mX7_readFor.2.1 58 = .ok (.aload_n 0, 1) := by decide +kernel
theorem eX7_readFor_59 : decode mX7_readFor.2.1 59 = .ok (.getfield 37, 3) := by decide +kernel
theorem eX7_readFor_62 : decode mX7_readFor.2.1 62 = .ok (.iconst 5, 1) := by decide +kernel
theorem eX7_readFor_63 : decode mX7_readFor.2.1 63 = .ok (.aload_n 0, 1) := by decide +kernel
theorem eX7_readFor_64 : decode mX7_readFor.2.1 64 = .ok (.getfield 15, 3) := by decide +kernel
theorem eX7_readFor_67 : decode mX7_readFor.2.1 67 = .ok (.bipush 67, 2) := by decide +kernel
theorem eX7_readFor_69 : decode mX7_readFor.2.1 69 = .ok (.iaload, 1) := by decide +kernel
theorem eX7_readFor_70 : decode mX7_readFor.2.1 70 = .ok (.bipush 10, 2) := by decide +kernel
theorem eX7_readFor_72 : decode mX7_readFor.2.1 72 = .ok (.irem, 1) := by decide +kernel
theorem eX7_readFor_73 : decode mX7_readFor.2.1 73 = .ok (.iastore, 1) := by decide +kernel
theorem eX7_readFor_74 : decode mX7_readFor.2.1 74 = .ok (.aload_n 0, 1) := by decide +kernel
theorem eX7_readFor_75 : decode mX7_readFor.2.1 75 = .ok (.getfield 15, 3) := by decide +kernel
theorem eX7_readFor_78 : decode mX7_readFor.2.1 78 = .ok (.bipush 68, 2) := by decide +kernel
theorem eX7_readFor_80 : decode mX7_readFor.2.1 80 = .ok (.iaload, 1) := by decide +kernel
theorem eX7_readFor_81 : decode mX7_readFor.2.1 81 = .ok (.ifCond .ne 20, 3) := by decide +kernel
theorem eX7_readFor_84 : decode mX7_readFor.2.1 84 = .ok (.aload_n 0, 1) := by decide +kernel
theorem eX7_readFor_85 : decode mX7_readFor.2.1 85 = .ok (.aload_n 0, 1) := by decide +kernel
theorem eX7_readFor_86 : decode mX7_readFor.2.1 86 = .ok (.getfield 37, 3) := by decide +kernel
theorem eX7_readFor_89 : decode mX7_readFor.2.1 89 = .ok (.iconst 3, 1) := by decide +kernel
theorem eX7_readFor_90 : decode mX7_readFor.2.1 90 = .ok (.iaload, 1) := by decide +kernel
theorem eX7_readFor_91 : decode mX7_readFor.2.1 91 = .ok (.putfield 168, 3) := by decide +kernel
theorem eX7_readFor_94 : decode mX7_readFor.2.1 94 = .ok (.aload_n 0, 1) := by decide +kernel
theorem eX7_readFor_95 : decode mX7_readFor.2.1 95 = .ok (.bipush 30, 2) := by decide +kernel
theorem eX7_readFor_97 : decode mX7_readFor.2.1 97 = .ok (.putfield 165, 3) := by decide +kernel
theorem eX7_readFor_100 : decode mX7_readFor.2.1 100 = .ok (.return_, 1) := by decide +kernel
theorem eX7_readFor_101 : decode mX7_readFor.2.1 101 = .ok (.aload_n 0, 1) := by decide +kernel
theorem eX7_readFor_102 : decode mX7_readFor.2.1 102 = .ok (.getfield 15, 3) := by decide +kernel
theorem eX7_readFor_105 : decode mX7_readFor.2.1 105 = .ok (.bipush 68, 2) := by decide +kernel
theorem eX7_readFor_107 : decode mX7_readFor.2.1 107 = .ok (.iaload, 1) := by decide +kernel
theorem eX7_readFor_108 : decode mX7_readFor.2.1 108 = .ok (.iconst 1, 1) := by decide +kernel
theorem eX7_readFor_109 : decode mX7_readFor.2.1 109 = .ok (.isub, 1) := by decide +kernel
theorem eX7_readFor_110 : decode mX7_readFor.2.1 110 = .ok (.istore_n 2, 1) := by decide +kernel
theorem eX7_readFor_111 : decode mX7_readFor.2.1 111 = .ok (.aload_n 0, 1) := by decide +kernel
theorem eX7_readFor_112 : decode mX7_readFor.2.1 112 = .ok (.aload_n 0, 1) := by decide +kernel
theorem eX7_readFor_113 : decode mX7_readFor.2.1 113 = .ok (.getfield 31, 3) := by decide +kernel
theorem eX7_readFor_116 : decode mX7_readFor.2.1 116 = .ok (.iload_n 2, 1) := by decide +kernel
theorem eX7_readFor_117 : decode mX7_readFor.2.1 117 = .ok (.iaload, 1) := by decide +kernel
theorem eX7_readFor_118 : decode mX7_readFor.2.1 118 = .ok (.putfield 133, 3) := by decide +kernel
theorem eX7_readFor_121 : decode mX7_readFor.2.1 121 = .ok (.iconst 0, 1) := by decide +kernel
theorem eX7_readFor_122 : decode mX7_readFor.2.1 122 = .ok (.istore_n 3, 1) := by decide +kernel
theorem eX7_readFor_123 : decode mX7_readFor.2.1 123 = .ok (.iload_n 3, 1) := by decide +kernel
theorem eX7_readFor_124 : decode mX7_readFor.2.1 124 = .ok (.aload_n 0, 1) := by decide +kernel
theorem eX7_readFor_125 : decode mX7_readFor.2.1 125 = .ok (.getfield 133, 3) := by decide +kernel
theorem eX7_readFor_128 : decode mX7_readFor.2.1 128 = .ok (.if_icmp .ge 26, 3) := by decide +kernel
theorem eX7_readFor_131 : decode mX7_readFor.2.1 131 = .ok (.aload_n 0, 1) := by decide +kernel
theorem eX7_readFor_132 : decode mX7_readFor.2.1 132 = .ok (.getfield 34, 3) := by decide +kernel
theorem eX7_readFor_135 : decode mX7_readFor.2.1 135 = .ok (.iload_n 3, 1) := by decide +kernel
theorem eX7_readFor_136 : decode mX7_readFor.2.1 136 = .ok (.aload_n 0, 1) := by decide +kernel
theorem eX7_readFor_137 : decode mX7_readFor.2.1 137 = .ok (.getfield 28, 3) := by decide +kernel
theorem eX7_readFor_140 : decode mX7_readFor.2.1 140 = .ok (.bipush 100, 2) := by decide +kernel
theorem eX7_readFor_142 : decode mX7_readFor.2.1 142 = .ok (.iload_n 2, 1) := by decide +kernel
theorem eX7_readFor_143 : decode mX7_readFor.2.1 143 = .ok (.imul, 1) := by decide +kernel
theorem eX7_readFor_144 : decode mX7_readFor.2.1 144 = .ok (.iload_n 3, 1) := by decide +kernel
theorem eX7_readFor_145 : decode mX7_readFor.2.1 145 = .ok (.iadd, 1) := by decide +kernel
theorem eX7_readFor_146 : decode mX7_readFor.2.1 146 = .ok (.iaload, 1) := by decide +kernel
theorem eX7_readFor_147 : decode mX7_readFor.2.1 147 = .ok (.iastore, 1) := by decide +kernel
theorem eX7_readFor_148 : decode mX7_readFor.2.1 148 = .ok (.iinc 3 1, 3) := by decide +kernel
theorem eX7_readFor_151 : decode mX7_readFor.2.1 151 = .ok (.goto (-28), 3) := by decide +kernel
theorem eX7_readFor_154 : decode mX7_readFor.2.1 154 = .ok (.aload_n 0, 1) := by decide +kernel
theorem eX7_readFor_155 : decode mX7_readFor.2.1 155 = .ok (.invokevirtual 174, 3) := by decide +kernel
theorem eX7_readFor_158 : decode mX7_readFor.2.1 158 = .ok (.pop, 1) := by decide +kernel
theorem eX7_readFor_159 : decode mX7_readFor.2.1 159 = .ok (.return_, 1) := by decide +kernel
theorem lp_X7_readFor {V : MS} {r : Nat} (hr : r < 6) (hv : V.2.1 10 = nI n) (hn : n ≤ 100) {o1 : Option Value} {h0 : Hp} (hQ : ∀ h' y', MAt h' u (mset V 7 (fun q => if q < n then V.1 5 (100 * r + q) else V.1 7 q)) → Same u 19 h0 h' → AW l G mX7_readFor d 0 0 Q 0 0 h' [some (.ref u), o1, some (.int (nI r)), some (.int y')] [] 154) : ∀ (k j : Nat) (y : Int32) (h : Hp), k = n - j → j ≤ n → y = nI j → MAt h u (mset V 7 (fun q => if q < j then V.1 5 (100 * r + q) else V.1 7 q)) → Same u 19 h0 h → AW l G mX7_readFor d 0 0 Q 0 0 h [some (.ref u), o1, some (.int (nI r)), some (.int y)] [] 123 := by
  intro k
  induction k using Nat.strongRecOn with
  | _ k ih =>
    intro j y h hk hj hy hM hs
    subst hy
    refine aw_iload_n (pc' := 124) eX7_readFor_123 rfl rfl ?_
    refine aw_aload_n (pc' := 125) eX7_readFor_124 rfl rfl trivial ?_
    refine aw_Mint (pc' := 128) (kf := 10) hM eX7_readFor_125 rfl (by decide) q799 ?_
    refine aw_icmp_ge (pc' := 131) (tgt := 154) eX7_readFor_128 rfl (by decide) (fun c_128 => ?_) (fun c_128 => ?_)
    · have hx : V.2.1 10 = nI n := hv
      rw [show (mset V 7 (fun q => if q < j then V.1 5 (100 * r + q) else V.1 7 q)).2.1 10 = nI n from hv] at c_128
      have c9 := ge_nI (by omega) (by omega) c_128
      obtain rfl : j = n := by omega
      exact hQ _ _ hM hs
    · rw [show (mset V 7 (fun q => if q < j then V.1 5 (100 * r + q) else V.1 7 q)).2.1 10 = nI n from hv] at c_128
      have c9 := nge_nI (by omega) (by omega) c_128
      refine aw_aload_n (pc' := 132) eX7_readFor_131 rfl rfl trivial ?_
      refine aw_Mref (pc' := 135) (kf := 9) 7 hM eX7_readFor_132 rfl (by decide) rfl q798 ?_
      refine aw_iload_n (pc' := 136) eX7_readFor_135 rfl rfl ?_
      refine aw_aload_n (pc' := 137) eX7_readFor_136 rfl rfl trivial ?_
      refine aw_Mref (pc' := 140) (kf := 6) 5 hM eX7_readFor_137 rfl (by decide) rfl q795 ?_
      refine aw_bipush (pc' := 142) (v := 100) eX7_readFor_140 rfl (by decide) ?_
      refine aw_iload_n (pc' := 143) eX7_readFor_142 rfl rfl ?_
      refine aw_imul (pc' := 144) eX7_readFor_143 rfl ?_
      refine aw_iload_n (pc' := 145) eX7_readFor_144 rfl rfl ?_
      refine aw_iadd (pc' := 146) eX7_readFor_145 rfl ?_
      refine aw_MaldC (pc' := 147) 5 (100 * r + j) hM eX7_readFor_146 rfl (by decide) (show vp_in _ 600 from (ix100 (r := r) (k := j) (by omega)).2) (ix100 (r := r) (k := j) (by omega)).1 ?_
      refine aw_MastC (pc' := 148) 7 j hM eX7_readFor_147 rfl (by decide) (show vp_in _ 100 from vp_in_nI (by omega) (by omega)) (nI_clamp (by omega)) (fun h3 hM1 hs2 => ?_)
      refine aw_iinc (pc' := 151) eX7_readFor_148 rfl rfl rfl (by decide) ?_
      dsimp only [zst, zst2, zcut]
      refine aw_goto eX7_readFor_151 (by decide) (tgt := 123) ?_
      refine ih (n - (j + 1)) (by omega) (j + 1) _ _ rfl (by omega) (nI_inc j) ?_ (hs.tr hs2)
      have hM9 := hM1
      rw [mup_mset, mset_set, mset_eq] at hM9
      refine hM9.gs fun q hq => ?_
      rw [upd_if]
      show (if q = j then V.1 5 (100 * r + j) else if q < j then V.1 5 (100 * r + q) else V.1 7 q) = _
      by_cases e : q = j
      · rw [if_pos e, if_pos (by omega), e]
      · rw [if_neg e]
        by_cases e2 : q < j
        · rw [if_pos e2, if_pos (by omega)]
        · rw [if_neg e2, if_neg (by omega)]
theorem c_X7_readFor (hM : MAt h u U) {i : Nat} (hi : i < 6) (hz : mZ U) (hg : ∃ q, q ≤ 6 ∧ U.1 1 68 = nI q) (hd : 20 ≤ d) : Ct l G mX7_readFor yX7_readFor d 0 0 [.ref u, .int (nI i)] h (fun r h' => r = none ∧ ∃ U', MAt h' u U' ∧ MK 0 (U.1 1) U U' ∧ U'.2.1 14 = (mRd U (U.1 1) i).1 ∧ U'.2.1 15 = (mRd U (U.1 1) i).2 ∧ Same u 19 h h') := by
  refine ct_of (lv := [some (.ref u), some (.int (nI i)), none, none]) (by decide +kernel) rfl (fun z => by cases z) (fun _ => rfl) (fun _ => Nat.le_of_ble_eq_true rfl) ?_
  refine aw_aload_n (pc' := 1) eX7_readFor_0 rfl rfl trivial ?_
  refine aw_Mref (pc' := 4) (kf := 16) 8 hM eX7_readFor_1 rfl (by decide) rfl q805 ?_
  refine aw_iconst (pc' := 5) (v := 0) eX7_readFor_4 rfl (by decide) ?_
  refine aw_iload_n (pc' := 6) eX7_readFor_5 rfl rfl ?_
  refine aw_MastC (pc' := 7) 8 0 hM eX7_readFor_6 rfl (by decide) (by unfold vp_in; decide) (by decide) (fun h3 hM1 hs2 => ?_)
  refine aw_aload_n (pc' := 8) eX7_readFor_7 rfl rfl trivial ?_
  refine aw_Mref (pc' := 11) (kf := 16) 8 hM1 eX7_readFor_8 rfl (by decide) rfl q805 ?_
  refine aw_iconst (pc' := 12) (v := 1) eX7_readFor_11 rfl (by decide) ?_
  refine aw_aload_n (pc' := 13) eX7_readFor_12 rfl rfl trivial ?_
  refine aw_iload_n (pc' := 14) eX7_readFor_13 rfl rfl ?_
  refine aw_iconst (pc' := 15) (v := 0) eX7_readFor_14 rfl (by decide) ?_
  refine aw_callv (pc' := 18) (nn := 2) (c_one (d := d - 1) hM1 i 0 (by omega) (by omega)) eX7_readFor_15 rfl ⟨q901, q904, q62⟩ q903 q22 ⟨rfl, by decide +kernel, by decide +kernel, by decide +kernel⟩ rfl (by rw [hM1.2.1]; exact ⟨rfl, rfl⟩) rfl ⟨by omega, by decide⟩ ⟨by omega, by omega⟩ rfl (Nat.le_of_ble_eq_true rfl) (fun v4 h5 hq6 => ?_)
  obtain ⟨rfl, rfl⟩ := hq6
  dsimp only [Option.toList, List.cons_append, List.nil_append]
  refine aw_MastC (pc' := 19) 8 1 hM1 eX7_readFor_18 rfl (by decide) (by unfold vp_in; decide) (by decide) (fun h9 hM7 hs8 => ?_)
  have hT10 := hs2.tr hs8
  refine aw_aload_n (pc' := 20) eX7_readFor_19 rfl rfl trivial ?_
  refine aw_Mref (pc' := 23) (kf := 16) 8 hM7 eX7_readFor_20 rfl (by decide) rfl q805 ?_
  refine aw_iconst (pc' := 24) (v := 2) eX7_readFor_23 rfl (by decide) ?_
  refine aw_aload_n (pc' := 25) eX7_readFor_24 rfl rfl trivial ?_
  refine aw_iload_n (pc' := 26) eX7_readFor_25 rfl rfl ?_
  refine aw_iconst (pc' := 27) (v := 1) eX7_readFor_26 rfl (by decide) ?_
  refine aw_callv (pc' := 30) (nn := 2) (c_one (d := d - 1) hM7 i 1 (by omega) (by omega)) eX7_readFor_27 rfl ⟨q901, q904, q62⟩ q903 q22 ⟨rfl, by decide +kernel, by decide +kernel, by decide +kernel⟩ rfl (by rw [hM7.2.1]; exact ⟨rfl, rfl⟩) rfl ⟨by omega, by decide⟩ ⟨by omega, by omega⟩ rfl (Nat.le_of_ble_eq_true rfl) (fun v11 h12 hq13 => ?_)
  obtain ⟨rfl, rfl⟩ := hq13
  dsimp only [Option.toList, List.cons_append, List.nil_append]
  refine aw_MastC (pc' := 31) 8 2 hM7 eX7_readFor_30 rfl (by decide) (by unfold vp_in; decide) (by decide) (fun h16 hM14 hs15 => ?_)
  have hT17 := hT10.tr hs15
  refine aw_aload_n (pc' := 32) eX7_readFor_31 rfl rfl trivial ?_
  refine aw_Mref (pc' := 35) (kf := 16) 8 hM14 eX7_readFor_32 rfl (by decide) rfl q805 ?_
  refine aw_iconst (pc' := 36) (v := 3) eX7_readFor_35 rfl (by decide) ?_
  refine aw_aload_n (pc' := 37) eX7_readFor_36 rfl rfl trivial ?_
  refine aw_iload_n (pc' := 38) eX7_readFor_37 rfl rfl ?_
  refine aw_iconst (pc' := 39) (v := 2) eX7_readFor_38 rfl (by decide) ?_
  refine aw_callv (pc' := 42) (nn := 2) (c_one (d := d - 1) hM14 i 2 (by omega) (by omega)) eX7_readFor_39 rfl ⟨q901, q904, q62⟩ q903 q22 ⟨rfl, by decide +kernel, by decide +kernel, by decide +kernel⟩ rfl (by rw [hM14.2.1]; exact ⟨rfl, rfl⟩) rfl ⟨by omega, by decide⟩ ⟨by omega, by omega⟩ rfl (Nat.le_of_ble_eq_true rfl) (fun v18 h19 hq20 => ?_)
  obtain ⟨rfl, rfl⟩ := hq20
  dsimp only [Option.toList, List.cons_append, List.nil_append]
  refine aw_MastC (pc' := 43) 8 3 hM14 eX7_readFor_42 rfl (by decide) (by unfold vp_in; decide) (by decide) (fun h23 hM21 hs22 => ?_)
  have hT24 := hT17.tr hs22
  refine aw_aload_n (pc' := 44) eX7_readFor_43 rfl rfl trivial ?_
  refine aw_Mref (pc' := 47) (kf := 16) 8 hM21 eX7_readFor_44 rfl (by decide) rfl q805 ?_
  refine aw_iconst (pc' := 48) (v := 4) eX7_readFor_47 rfl (by decide) ?_
  refine aw_aload_n (pc' := 49) eX7_readFor_48 rfl rfl trivial ?_
  refine aw_iload_n (pc' := 50) eX7_readFor_49 rfl rfl ?_
  refine aw_iconst (pc' := 51) (v := 4) eX7_readFor_50 rfl (by decide) ?_
  refine aw_callv (pc' := 54) (nn := 2) (c_one (d := d - 1) hM21 i 4 (by omega) (by omega)) eX7_readFor_51 rfl ⟨q901, q904, q62⟩ q903 q22 ⟨rfl, by decide +kernel, by decide +kernel, by decide +kernel⟩ rfl (by rw [hM21.2.1]; exact ⟨rfl, rfl⟩) rfl ⟨by omega, by decide⟩ ⟨by omega, by omega⟩ rfl (Nat.le_of_ble_eq_true rfl) (fun v25 h26 hq27 => ?_)
  obtain ⟨rfl, rfl⟩ := hq27
  dsimp only [Option.toList, List.cons_append, List.nil_append]
  refine aw_bipush (pc' := 56) (v := 10) eX7_readFor_54 rfl (by decide) ?_
  refine aw_irem (pc' := 57) eX7_readFor_56 rfl (by decide) ?_
  refine aw_MastC (pc' := 58) 8 4 hM21 eX7_readFor_57 rfl (by decide) (by unfold vp_in; decide) (by decide) (fun h30 hM28 hs29 => ?_)
  have hT31 := hT24.tr hs29
  refine aw_aload_n (pc' := 59) eX7_readFor_58 rfl rfl trivial ?_
  refine aw_Mref (pc' := 62) (kf := 16) 8 hM28 eX7_readFor_59 rfl (by decide) rfl q805 ?_
  refine aw_iconst (pc' := 63) (v := 5) eX7_readFor_62 rfl (by decide) ?_
  refine aw_aload_n (pc' := 64) eX7_readFor_63 rfl rfl trivial ?_
  refine aw_Mref (pc' := 67) (kf := 0) 1 hM28 eX7_readFor_64 rfl (by decide) rfl q789 ?_
  refine aw_bipush (pc' := 69) (v := 67) eX7_readFor_67 rfl (by decide) ?_
  refine aw_MaldC (pc' := 70) 1 67 hM28 eX7_readFor_69 rfl (by decide) (by unfold vp_in; decide) (by decide) ?_
  refine aw_bipush (pc' := 72) (v := 10) eX7_readFor_70 rfl (by decide) ?_
  refine aw_irem (pc' := 73) eX7_readFor_72 rfl (by decide) ?_
  refine aw_MastC (pc' := 74) 8 5 hM28 eX7_readFor_73 rfl (by decide) (by unfold vp_in; decide) (by decide) (fun h34 hM32 hs33 => ?_)
  have hT35 := hT31.tr hs33
  have hM8 : MAt _ u (mset U 8 (mNm (U.1 1) i)) := MAt.nm (g := U.1 1) hM32 rfl rfl rfl rfl rfl rfl
  have hs8 := hT35
  refine aw_aload_n (pc' := 75) eX7_readFor_74 rfl rfl trivial ?_
  refine aw_Mref (pc' := 78) (kf := 0) 1 hM8 eX7_readFor_75 rfl (by decide) rfl q789 ?_
  refine aw_bipush (pc' := 80) (v := 68) eX7_readFor_78 rfl (by decide) ?_
  refine aw_MaldC (pc' := 81) 1 68 hM8 eX7_readFor_80 rfl (by decide) (by unfold vp_in; decide) (by decide) ?_
  refine aw_if_ne (pc' := 84) (tgt := 101) eX7_readFor_81 rfl (by decide) (fun c_81 => ?_) (fun c_81 => ?_)
  · obtain ⟨q, hq6, eq⟩ := hg
    have hq0 : q ≠ 0 := fun z => by
      have y := c_81
      rw [show (mset U 8 (mNm (U.1 1) i)).1 1 68 = nI q from eq, z] at y
      exact absurd rfl y
    obtain ⟨r, rfl⟩ : ∃ r, q = r + 1 := ⟨q - 1, by omega⟩
    have hr6 : r < 6 := by omega
    have er : (mset U 8 (mNm (U.1 1) i)).1 1 68 - 1 = nI r := by rw [show (mset U 8 (mNm (U.1 1) i)).1 1 68 = nI (r + 1) from eq]; exact nI_m1
    obtain ⟨n, hn, en⟩ := hz r hr6
    have hvr : vp_in (nI r) 6 := vp_in_nI hr6 (by omega)
    have hcr : (nI r).toNatClampNeg = r := nI_clamp (by omega)
    refine aw_aload_n (pc' := 102) eX7_readFor_101 rfl rfl trivial ?_
    refine aw_Mref (pc' := 105) (kf := 0) 1 hM8 eX7_readFor_102 rfl (by decide) rfl q789 ?_
    refine aw_bipush (pc' := 107) (v := 68) eX7_readFor_105 rfl (by decide) ?_
    refine aw_MaldC (pc' := 108) 1 68 hM8 eX7_readFor_107 rfl (by decide) (by unfold vp_in; decide) (by decide) ?_
    refine aw_iconst (pc' := 109) (v := 1) eX7_readFor_108 rfl (by decide) ?_
    refine aw_isub (pc' := 110) eX7_readFor_109 rfl ?_
    rw [er]
    refine aw_istore_n (pc' := 111) eX7_readFor_110 rfl (by decide) ?_
    dsimp only [zst, zst2, zcut]
    refine aw_aload_n (pc' := 112) eX7_readFor_111 rfl rfl trivial ?_
    refine aw_aload_n (pc' := 113) eX7_readFor_112 rfl rfl trivial ?_
    refine aw_Mref (pc' := 116) (kf := 7) 6 hM8 eX7_readFor_113 rfl (by decide) rfl q796 ?_
    refine aw_iload_n (pc' := 117) eX7_readFor_116 rfl rfl ?_
    refine aw_MaldC (pc' := 118) 6 r hM8 eX7_readFor_117 rfl (by decide) hvr hcr ?_
    refine aw_Mput (pc' := 121) 10 hM8 eX7_readFor_118 rfl (by decide) (fun z => absurd z (by decide)) q799 (fun h38 hM36 hs37 => ?_)
    have hT39 := hs8.tr hs37
    refine aw_iconst (pc' := 122) (v := 0) eX7_readFor_121 rfl (by decide) ?_
    refine aw_istore_n (pc' := 123) eX7_readFor_122 rfl (by decide) ?_
    dsimp only [zst, zst2, zcut]
    refine lp_X7_readFor (V := msc (mset U 8 (mNm (U.1 1) i)) 10 (U.1 6 r)) (n := n) hr6 en hn (fun h' y' m9 s9 => ?_) n 0 _ _ (by omega) (by omega) rfl (MAt.id hM36 fun q hq => by rw [if_neg (by omega)]) hT39
    have eR : pRA (fun q => if q < n then U.1 5 (100 * r + q) else U.1 7 q) n (U.1 9) (mNm (U.1 1) i) (U.1 10) = pRA (fun k => U.1 5 (100 * r + k)) n (U.1 9) (mNm (U.1 1) i) (U.1 10) := pRA_ext (fun k hk => if_pos hk) (fun _ _ => rfl)
    have eM : mRd U (U.1 1) i = (pRA (fun k => U.1 5 (100 * r + k)) n (U.1 9) (mNm (U.1 1) i) (U.1 10)).2 := by
      rw [mRd, if_neg (by rw [eq]; intro z; exact absurd ((nI_eq (a := r + 1) (b := 0) (by omega) (by omega)).mp z) (by omega)), eq, nI_m1, hcr, en, nI_clamp (by omega)]
    refine aw_aload_n (pc' := 155) eX7_readFor_154 rfl rfl trivial ?_
    refine aw_callv (pc' := 158) (nn := 0) (c_X7_readAll (d := d - 1) m9 (n := n) ⟨en, hn⟩ (by omega)) eX7_readFor_155 rfl ⟨q913, q916, q62⟩ q915 q25 ⟨rfl, by decide +kernel, by decide +kernel, by decide +kernel⟩ rfl (by rw [m9.2.1]; exact ⟨rfl, rfl⟩) rfl ⟨by omega, by decide⟩ ⟨by omega, by omega⟩ rfl (Nat.le_of_ble_eq_true rfl) (fun v1 h2 hq3 => ?_)
    obtain ⟨rfl, k7, m7, s7⟩ := hq3
    dsimp only [Option.toList, List.cons_append, List.nil_append]
    refine aw_pop (pc' := 159) eX7_readFor_158 rfl rfl ?_
    refine aw_ret (v := none) eX7_readFor_159 rfl (by omega) (by omega) rfl ?_
    exact ⟨rfl, _, m7, ⟨rfl, fun j hj => by (show (if j = 7 then _ else if j = 8 then _ else U.1 j) = _; rw [if_neg (by unfold msv at hj; omega), if_neg (by unfold msv at hj; omega)]), fun k hk => by (show (if k = 11 then _ else if k = 12 then _ else if k = 13 then _ else if k = 15 then _ else if k = 14 then _ else if k = 10 then _ else U.2.1 k) = _; rw [if_neg (by omega), if_neg (by omega), if_neg (by omega), if_neg (by omega), if_neg (by omega), if_neg (by omega)]), rfl⟩, by rw [eM, ← eR]; rfl, by rw [eM, ← eR]; rfl, s9.tr s7⟩
  · have c81 : U.1 1 68 = 0 := by first | exact c_81 | exact Decidable.not_not.mp c_81
    refine aw_aload_n (pc' := 85) eX7_readFor_84 rfl rfl trivial ?_
    refine aw_aload_n (pc' := 86) eX7_readFor_85 rfl rfl trivial ?_
    refine aw_Mref (pc' := 89) (kf := 16) 8 hM8 eX7_readFor_86 rfl (by decide) rfl q805 ?_
    refine aw_iconst (pc' := 90) (v := 3) eX7_readFor_89 rfl (by decide) ?_
    refine aw_MaldC (pc' := 91) 8 3 hM8 eX7_readFor_90 rfl (by decide) (by unfold vp_in; decide) (by decide) ?_
    refine aw_Mput (pc' := 94) 14 hM8 eX7_readFor_91 rfl (by decide) (fun z => absurd z (by decide)) q803 (fun h42 hM40 hs41 => ?_)
    have hT43 := hs8.tr hs41
    refine aw_aload_n (pc' := 95) eX7_readFor_94 rfl rfl trivial ?_
    refine aw_bipush (pc' := 97) (v := 30) eX7_readFor_95 rfl (by decide) ?_
    refine aw_Mput (pc' := 100) 15 hM40 eX7_readFor_97 rfl (by decide) (fun z => absurd z (by decide)) q804 (fun h46 hM44 hs45 => ?_)
    have hT47 := hT43.tr hs45
    refine aw_ret (v := none) eX7_readFor_100 rfl (by omega) (by omega) rfl ?_
    exact ⟨rfl, _, hM44, ⟨rfl, fun j hj => by first | (show (if j = 8 then _ else U.1 j) = _; rw [if_neg (by unfold msv at hj; omega)]), fun k hk => by first | (show (if k = 15 then _ else if k = 14 then _ else U.2.1 k) = _; rw [if_neg (by omega), if_neg (by omega)]), rfl⟩, by rw [mRd, if_pos c81]; rfl, by rw [mRd, if_pos c81]; rfl, hT47⟩
end M12
