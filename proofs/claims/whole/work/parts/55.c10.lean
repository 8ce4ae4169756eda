/-! the class: a test, what joins them -/
section C10
variable {l : Launch} {G : GT} {e n d k : Nat} {h : Hp} {Q : Option Value → Hp → Prop} {R : Nat → Int32} {a : Nat} {b : Bool} {ss : List Int32} {r : Int32}
abbrev N0 : Nat → Int32 := fun _ => 0
def rel (s x y : Int32) : Bool := if s = 60 then decide (x < y) else if s = 61 then decide (x = y) else decide (y < x)
theorem pNm_ge (ha : ¬ a < n) : ∀ k, pNm R n mLe (a, b) k = -1
  | 0 => rfl
  | k + 1 => by rw [pNm, show pAt R n (a, b) (mLe k) = false by simp [pAt, ha]]; exact pNm_ge ha k
theorem pT_no {N : Nat → Int32} (hz : pNm R n mLe (a, b) 6 = -1) : pTest R n mLe N (a, b) = (false, (a, false)) := by
  unfold pTest
  rw [if_pos hz]
theorem nIm1 {j : Nat} (hj : j < 100) : ¬ nI j = -1 := fun y => by
  have := congrArg Int32.toInt y
  rw [nI_toInt (by omega), show (-1 : Int32).toInt = -1 from by decide] at this
  omega
theorem pT_ok {N : Nat → Int32} {j : Nat} (hb : b = true) (hj : pNm R n mLe (a, b) 6 = nI j) (hj6 : j < 6) (ha1 : a + 1 < n) (h3 : R (a + 1) = 60 ∨ R (a + 1) = 61 ∨ R (a + 1) = 62) : pTest R n mLe N (a, b) = (rel (R (a + 1)) (N j) (pNum R n (a + 2, b)).1, (pNum R n (a + 2, b)).2) := by
  have e : ∀ c, pAt R n (a + 1, b) c = decide (R (a + 1) = c) := fun c => by simp [pAt, ha1, hb]
  unfold pTest
  rw [hj, if_neg (nIm1 (by omega)), nI_clamp (by omega)]
  have eC : pCm R n (a + 1, b) = if R (a + 1) = 60 then -1 else if R (a + 1) = 62 then 1 else 0 := by simp only [pCm, e, decide_eq_true_eq]
  rcases h3 with z | z | z
  · have c1 : pCm R n (a + 1, b) = -1 := by rw [eC, z]; decide
    have t1 : pTk R n (a + 1, b) (pSg (-1)) = (a + 2, b) := by rw [pTk, show pSg (-1) = 60 by decide, if_pos (by rw [e, z]; decide)]
    show (pRs (pCm R n (a + 1, b)) (N j) (pNum R n (pTk R n (a + 1, b) (pSg (pCm R n (a + 1, b))))).1, (pNum R n (pTk R n (a + 1, b) (pSg (pCm R n (a + 1, b))))).2) = _
    rw [c1, t1, z]
    rfl
  · have c1 : pCm R n (a + 1, b) = 0 := by rw [eC, z]; decide
    have t1 : pTk R n (a + 1, b) (pSg 0) = (a + 2, b) := by rw [pTk, show pSg 0 = 61 by decide, if_pos (by rw [e, z]; decide)]
    show (pRs (pCm R n (a + 1, b)) (N j) (pNum R n (pTk R n (a + 1, b) (pSg (pCm R n (a + 1, b))))).1, (pNum R n (pTk R n (a + 1, b) (pSg (pCm R n (a + 1, b))))).2) = _
    rw [c1, t1, z]
    rfl
  · have c1 : pCm R n (a + 1, b) = 1 := by rw [eC, z]; decide
    have t1 : pTk R n (a + 1, b) (pSg 1) = (a + 2, b) := by rw [pTk, show pSg 1 = 62 by decide, if_pos (by rw [e, z]; decide)]
    show (pRs (pCm R n (a + 1, b)) (N j) (pNum R n (pTk R n (a + 1, b) (pSg (pCm R n (a + 1, b))))).1, (pNum R n (pTk R n (a + 1, b) (pSg (pCm R n (a + 1, b))))).2) = _
    rw [c1, t1, z]
    rfl
theorem pT_bad {N : Nat → Int32} {j : Nat} (hA : RA R n) (hj : pNm R n mLe (a, b) 6 = nI j) (hj6 : j < 6) (hz : sg R n (a + 1) - 60 < 0 ∨ ¬ sg R n (a + 1) - 60 ≤ 2) : (pTest R n mLe N (a, b)).2 = (a + 1, false) := by
  obtain ⟨e1, e2, e3⟩ := sg3n (b := b) hA hz rfl
  unfold pTest
  rw [hj, if_neg (nIm1 (by omega))]
  show (pNum R n (pTk R n (a + 1, b) (pSg (pCm R n (a + 1, b))))).2 = _
  have c1 : pCm R n (a + 1, b) = 0 := by rw [pCm, if_neg (by rw [e1]; decide), if_neg (by rw [e3]; decide)]
  rw [c1, show pSg 0 = 61 by decide, pTk, if_neg (by rw [e2]; decide), pNum_no rfl]
theorem ev_t {so j k : Nat} {B : (Nat → Int32) → Bool} (h1 : so < 3) (h2 : j < 6) (h3 : k < 100) (hB : ∀ N : Nat → Int32, B N = if so = 0 then decide (N j < nI k) else if so = 1 then decide (N j = nI k) else decide (nI k < N j)) : Ev [enc so j k] B 1 := fun N t H i h4 h5 => by
  rw [hB N]
  exact cA_t h1 h2 h3 (pw12 h4 (by omega))
theorem SO.no {B : (Nat → Int32) → Bool} {w a' : Nat} (ha : a ≤ a') : SO ss ss a a' false B w := ⟨by omega, fun z => by cases z⟩
theorem test_SO {x : Int32} {j : Nat} (hA : RA R n) (hb : b = true) (hj : pNm R n mLe (a, b) 6 = nI j) (hj6 : j < 6) (ha1 : a + 1 < n) (h3 : R (a + 1) = 60 ∨ R (a + 1) = 61 ∨ R (a + 1) = 62) (hx : x = (((pNum R n (a + 2, b)).1 <<< (8 &&& 31)) ||| (nI j <<< (4 &&& 31))) ||| (R (a + 1) - 60)) : SO ss (if (pNum R n (a + 2, b)).2.2 = true then ss ++ [x] else ss) a (pNum R n (a + 2, b)).2.1 (pNum R n (a + 2, b)).2.2 (fun N => (pTest R n mLe N (a, b)).1) 1 := by
  have hge : a + 2 ≤ (pNum R n (a + 2, b)).2.1 := pNum_ge (p := (a + 2, b))
  refine ⟨?_, fun z => ?_⟩
  · split
    · rw [List.length_append, List.length_singleton]; omega
    · omega
  · obtain ⟨k, hk, ek⟩ := pNum_v hA z
    refine ⟨[x], by rw [if_pos z], ?_⟩
    have hB : ∀ N : Nat → Int32, (pTest R n mLe N (a, b)).1 = rel (R (a + 1)) (N j) (nI k) := fun N => by rw [pT_ok hb hj hj6 ha1 h3, ek]
    rw [ek] at hx
    rcases h3 with y | y | y
    · rw [y] at hx hB
      rw [hx]
      exact ev_t (so := 0) (by omega) hj6 hk (fun N => by rw [hB N]; rfl)
    · rw [y] at hx hB
      rw [hx]
      exact ev_t (so := 1) (by omega) hj6 hk (fun N => by rw [hB N]; rfl)
    · rw [y] at hx hB
      rw [hx]
      exact ev_t (so := 2) (by omega) hj6 hk (fun N => by rw [hB N]; rfl)
theorem yes_at {c : Nat} (hA : RA R n) (hc : c < 128) (hb : b = true) (hs : sg R n a = nI c) : pAt R n (a, b) (nI c) = true := by
  rw [sg_at hA hc, hb, decide_eq_true hs]
  rfl
theorem no_at {c : Nat} (hA : RA R n) (hc : c < 128) (hs : ¬ sg R n a = nI c) (z : pAt R n (a, b) (nI c) = true) : False := by
  rw [sg_at hA hc, decide_eq_false hs, Bool.and_false] at z
  exact absurd z (by decide)
theorem RdAt.cv {a' : Nat} {b' : Bool} (hR : RdAt h e n R a b ss r) (ea : a = a') (eb : b = b') : RdAt h e n R a' b' ss r := by
  subst ea eb
  exact hR
/-! nots -/
def nn : Nat → Bool → Bool
  | 0, b => b
  | j + 1, b => !(nn j b)
theorem nn_c : ∀ j b, nn j (!b) = !(nn j b)
  | 0, _ => rfl
  | j + 1, b => by rw [nn, nn_c j b, nn]
theorem PXn {N : Nat → Int32} (hn : n ≤ 100) : ∀ j, a ≤ n → (∀ i, i < j → k + i < 4 ∧ pAt R n (a + i, b) 33 = true) → PX R n mLe N 0 k false (a, b) = (nn j (PX R n mLe N 0 (k + j) false (a + j, b)).1, (PX R n mLe N 0 (k + j) false (a + j, b)).2)
  | 0, _, _ => rfl
  | j + 1, ha, hz => by
    have z := hz j (by omega)
    have hl := pAt_lt z.2
    have e2 : PX R n mLe N 0 (k + j) false (a + j, b) = (!(PX R n mLe N 0 (k + (j + 1)) false (a + (j + 1), b)).1, (PX R n mLe N 0 (k + (j + 1)) false (a + (j + 1), b)).2) := by
      rw [PX0 hn (show (a + j, b).1 ≤ n from Nat.le_of_lt hl), if_pos z, Nat.add_assoc k j 1]
      show ((!(PX R n mLe N 0 (k + (j + 1)) false (a + j + 1, b)).1, (PX R n mLe N 0 (k + (j + 1)) false (a + j + 1, b)).2) : Bool × PP) = _
      rw [Nat.add_assoc a j 1]
    rw [PXn hn j ha (fun i hi => hz i (by omega)), e2]
    show (nn j (!(PX R n mLe N 0 (k + (j + 1)) false (a + (j + 1), b)).1), (PX R n mLe N 0 (k + (j + 1)) false (a + (j + 1), b)).2) = _
    rw [nn_c, nn]
theorem SO.nots {ss1 : List Int32} {A j w : Nat} {B : Bool} {V V' : (Nat → Int32) → Bool} (hs : SO ss ss1 (a + j) A B V w) (hV : ∀ N, V' N = nn j (V N)) : SO ss (if B = true then ss1 ++ List.replicate j (enc 3 0 0) else ss1) a A B V' w := by
  obtain ⟨h1, h2⟩ := hs
  refine ⟨?_, fun z => ?_⟩
  · split
    · rw [List.length_append, List.length_replicate]; omega
    · omega
  · obtain ⟨c, e1, e2⟩ := h2 z
    refine ⟨c ++ List.replicate j (enc 3 0 0), by rw [if_pos z, e1, List.append_assoc], ?_⟩
    have key : ∀ i, Ev (c ++ List.replicate i (enc 3 0 0)) (fun N => nn i (V N)) w := fun i => by
      induction i with
      | zero => simpa [nn] using e2
      | succ i ih =>
        rw [List.replicate_succ', ← List.append_assoc]
        exact ih.not
    exact (key j).eq fun N => (hV N).symm
theorem SO.le {ss1 : List Int32} {A w w' : Nat} {B : Bool} {V : (Nat → Int32) → Bool} (hs : SO ss ss1 a A B V w) (hw : w ≤ w') : SO ss ss1 a A B V w' := ⟨hs.1, fun z => by
  obtain ⟨c, e1, e2⟩ := hs.2 z
  exact ⟨c, e1, e2.le hw⟩⟩
theorem SO.par {ss1 : List Int32} {A w : Nat} {B : Bool} {V V' : (Nat → Int32) → Bool} {p' : PP} (hs : SO ss ss1 (a + 1) A B V w) (hV : ∀ N, V' N = V N) (hp : p' = pTk R n (A, B) 41) : SO ss ss1 a p'.1 p'.2 V' w := by
  have h1 : A ≤ p'.1 := by rw [hp]; exact pTk_ge (p := (A, B))
  refine ⟨by have := hs.1; omega, fun z => ?_⟩
  have hB : B = true := by
    cases B
    · rw [hp, pTk_no rfl] at z; exact z
    · rfl
  obtain ⟨c, e1, e2⟩ := hs.2 hB
  exact ⟨c, e1, e2.eq fun N => (hV N).symm⟩
theorem zb_o0 (b : Bool) : zb b ||| 0 = zb b := by cases b <;> decide
theorem zb_o1 (b : Bool) : zb b ||| 1 = zb true := by cases b <;> decide

abbrev mX0_test : MT := (RX0, cX0_test, 3, none, false)
theorem eX0_test_0 : decode mX0_test.2.1 0 = .ok (.aload_n 0, 1) := by decide +kernel
theorem eX0_test_1 : decode mX0_test.2.1 1 = .ok (.getfield 26, 3) := by decide +kernel
theorem eX0_test_4 : decode mX0_test.2.1 4 = .ok (.ifCond .eq 32, 3) := by decide +kernel
theorem eX0_test_7 : decode mX0_test.2.1 7 = .ok (.aload_n 0, 1) := by decide +kernel
theorem eX0_test_8 : decode mX0_test.2.1 8 = .ok (.getfield 23, 3) := by decide +kernel
theorem eX0_test_11 : decode mX0_test.2.1 11 = .ok (.aload_n 0, 1) := by decide +kernel
theorem eX0_test_12 : decode mX0_test.2.1 12 = .ok (.getfield 19, 3) := by decide +kernel
theorem eX0_test_15 : decode mX0_test.2.1 15 = .ok (.if_icmp .ge 21, 3) := by decide +kernel
theorem eX0_test_18 : decode mX0_test.2.1 18 = .ok (.ldc 85, 2) := by decide +kernel
theorem eX0_test_20 : decode mX0_test.2.1 20 = .ok (.aload_n 0, 1) := by decide +kernel
theorem eX0_test_21 : decode mX0_test.2.1 21 = .ok (.getfield 9, 3) := by decide +kernel
theorem eX0_test_24 : decode mX0_test.2.1 24 = .ok (.aload_n 0, 1) := by decide +kernel
theorem eX0_test_25 : decode mX0_test.2.1 25 = .ok (.getfield 23, 3) := by decide +kernel
theorem eX0_test_28 : decode mX0_test.2.1 28 = .ok (.baload, 1) := by decide +kernel
theorem eX0_test_29 : decode mX0_test.2.1 29 = .ok (.i2c, 1) := by decide +kernel
theorem eX0_test_30 : decode mX0_test.2.1 30 = .ok (.invokevirtual 87, 3) := by decide +kernel
theorem eX0_test_33 : decode mX0_test.2.1 33 = .ok (.goto 4, 3) := by decide +kernel
theorem eX0_test_36 : decode mX0_test.2.1 36 = .ok (.iconst (-1), 1) := by decide +kernel
theorem eX0_test_37 : decode mX0_test.2.1 37 = .ok (.istore_n 1, 1) := by decide +kernel
theorem eX0_test_38 : decode mX0_test.2.1 38 = .ok (.iload_n 1, 1) := by decide +kernel
theorem eX0_test_39 : decode mX0_test.2.1 39 = .ok (.ifCond .ge 9, 3) := by decide +kernel
theorem eX0_test_42 : decode mX0_test.2.1 42 = .ok (.aload_n 0, 1) := by decide +kernel
theorem eX0_test_43 : decode mX0_test.2.1 43 = .ok (.iconst 0, 1) := by decide +kernel
theorem eX0_test_44 : decode mX0_test.2.1 44 = .ok (.putfield 26, 3) := by decide +kernel
theorem eX0_test_47 : decode mX0_test.2.1 47 = .ok (.return_, 1) := by decide +kernel
theorem eX0_test_48 : decode mX0_test.2.1 48 = .ok (.aload_n 0, 1) := by decide +kernel
theorem eX0_test_49 : decode mX0_test.2.1 49 = .ok (.dup, 1) := by decide +kernel
theorem eX0_test_50 : decode mX0_test.2.1 50 = .ok (.getfield 23, 3) := by decide +kernel
theorem eX0_test_53 : decode mX0_test.2.1 53 = .ok (.iconst 1, 1) := by decide +kernel
theorem eX0_test_54 : decode mX0_test.2.1 54 = .ok (.iadd, 1) := by decide +kernel
theorem eX0_test_55 : decode mX0_test.2.1 55 = .ok (.putfield 23, 3) := by decide +kernel
theorem eX0_test_58 : decode mX0_test.2.1 58 = .ok (.aload_n 0, 1) := by decide +kernel
theorem eX0_test_59 : decode mX0_test.2.1 59 = .ok (.invokevirtual 39, 3) := by decide +kernel
theorem eX0_test_62 : decode mX0_test.2.1 62 = .ok (.bipush 60, 2) := by decide +kernel
theorem eX0_test_64 : decode mX0_test.2.1 64 = .ok (.isub, 1) := by decide +kernel
theorem eX0_test_65 : decode mX0_test.2.1 65 = .ok (.istore_n 2, 1) := by decide +kernel
theorem eX0_test_66 : decode mX0_test.2.1 66 = .ok (.iload_n 2, 1) := by decide +kernel
theorem eX0_test_67 : decode mX0_test.2.1 67 = .ok (.ifCond .lt 8, 3) := by decide +kernel
theorem eX0_test_70 : decode mX0_test.2.1 70 = .ok (.iload_n 2, 1) := by decide +kernel
theorem eX0_test_71 : decode mX0_test.2.1 71 = .ok (.iconst 2, 1) := by decide +kernel
theorem eX0_test_72 : decode mX0_test.2.1 72 = .ok (.if_icmp .le 9, 3) := by decide +kernel
theorem eX0_test_75 : decode mX0_test.2.1 75 = .ok (.aload_n 0, 1) := by decide +kernel
theorem eX0_test_76 : decode mX0_test.2.1 76 = .ok (.iconst 0, 1) := by decide +kernel
theorem eX0_test_77 : decode mX0_test.2.1 77 = .ok (.putfield 26, 3) := by decide +kernel
theorem eX0_test_80 : decode mX0_test.2.1 80 = .ok (.return_, 1) := by decide +kernel
theorem eX0_test_81 : decode mX0_test.2.1 81 = .ok (.aload_n 0, 1) := by decide +kernel
theorem eX0_test_82 : decode mX0_test.2.1 82 = .ok (.dup, 1) := by decide +kernel
theorem eX0_test_83 : decode mX0_test.2.1 83 = .ok (.getfield 23, 3) := by decide +kernel
theorem eX0_test_86 : decode mX0_test.2.1 86 = .ok (.iconst 1, 1) := by decide +kernel
theorem eX0_test_87 : decode mX0_test.2.1 87 = .ok (.iadd, 1) := by decide +kernel
theorem eX0_test_88 : decode mX0_test.2.1 88 = .ok (.putfield 23, 3) := by decide +kernel
theorem eX0_test_91 : decode mX0_test.2.1 91 = .ok (.aload_n 0, 1) := by decide +kernel
theorem eX0_test_92 : decode mX0_test.2.1 92 = .ok (.iload_n 2, 1) := by decide +kernel
theorem eX0_test_93 : decode mX0_test.2.1 93 = .ok (.iload_n 1, 1) := by decide +kernel
theorem eX0_test_94 : decode mX0_test.2.1 94 = .ok (.aload_n 0, 1) := by decide +kernel
theorem eX0_test_95 : decode mX0_test.2.1 95 = .ok (.invokevirtual 60, 3) := by decide +kernel
theorem eX0_test_98 : decode mX0_test.2.1 98 = .ok (.invokevirtual 73, 3) := by decide +kernel
theorem eX0_test_101 : decode mX0_test.2.1 101 = .ok (.return_, 1) := by decide +kernel
theorem c_X0_test (hR : RdAt h e n R a b ss r) (hn : n ≤ 100) (hA : RA R n) (ha : a ≤ n) (hl : ss.length ≤ a) (hd : 4 ≤ d) : Ct l G mX0_test yX0_test d 0 0 [.ref e] h (fun v h' => v = none ∧ ∃ ss', RdAt h' e n R (pTest R n mLe N0 (a, b)).2.1 (pTest R n mLe N0 (a, b)).2.2 ss' r ∧ SO ss ss' a (pTest R n mLe N0 (a, b)).2.1 (pTest R n mLe N0 (a, b)).2.2 (fun N => (pTest R n mLe N (a, b)).1) 1 ∧ Same e 3 h h') := by
  refine ct_of (lv := [some (.ref e), none, none]) (by decide +kernel) rfl (fun z => by cases z) (fun _ => rfl) (fun _ => Nat.le_of_ble_eq_true rfl) ?_
  refine aw_aload_n (pc' := 1) eX0_test_0 rfl rfl trivial ?_
  refine aw_Oget (pc' := 4) (ci := 0) (kf := 4) (N := 7) (.int (zb b)) (hR).1 eX0_test_1 rfl rfl rfl inX0 (by decide) q187 rfl ?_
  refine aw_if_eq (pc' := 7) (tgt := 36) eX0_test_4 rfl (by decide) (fun c_4 => ?_) (fun c_4 => ?_)
  · refine aw_iconst (pc' := 37) (v := -1) eX0_test_36 rfl (by decide) ?_
    refine aw_istore_n (pc' := 38) eX0_test_37 rfl (by decide) ?_
    dsimp only [zst, zst2, zcut]
    refine aw_iload_n (pc' := 39) eX0_test_38 rfl rfl ?_
    refine aw_if_ge (pc' := 42) (tgt := 48) eX0_test_39 rfl (by decide) (fun c_39 => ?_) (fun c_39 => ?_)
    · exact absurd c_39 (by decide)
    · refine aw_aload_n (pc' := 43) eX0_test_42 rfl rfl trivial ?_
      refine aw_iconst (pc' := 44) (v := 0) eX0_test_43 rfl (by decide) ?_
      refine aw_Rfit (pc' := 47) false hR eX0_test_44 rfl q187 rfl (fun h3 hR1 hs2 => ?_)
      refine aw_ret (v := none) eX0_test_47 rfl (by omega) (by omega) rfl ?_
      have hz : pNm R n mLe (a, b) 6 = -1 := pNm_no (p := (a, b)) (zb_eq0.mp c_4) 6
      rw [pT_no hz]
      exact ⟨rfl, ss, hR1, SO.no (Nat.le_refl _), hs2⟩
  · refine aw_aload_n (pc' := 8) eX0_test_7 rfl rfl trivial ?_
    refine aw_Oget (pc' := 11) (ci := 0) (kf := 3) (N := 7) (.int (nI (a))) (hR).1 eX0_test_8 rfl rfl rfl inX0 (by decide) q186 rfl ?_
    refine aw_aload_n (pc' := 12) eX0_test_11 rfl rfl trivial ?_
    refine aw_Oget (pc' := 15) (ci := 0) (kf := 2) (N := 7) (.int (nI n)) (hR).1 eX0_test_12 rfl rfl rfl inX0 (by decide) q184 rfl ?_
    refine aw_icmp_ge (pc' := 18) (tgt := 36) eX0_test_15 rfl (by decide) (fun c_15 => ?_) (fun c_15 => ?_)
    · refine aw_iconst (pc' := 37) (v := -1) eX0_test_36 rfl (by decide) ?_
      refine aw_istore_n (pc' := 38) eX0_test_37 rfl (by decide) ?_
      dsimp only [zst, zst2, zcut]
      refine aw_iload_n (pc' := 39) eX0_test_38 rfl rfl ?_
      refine aw_if_ge (pc' := 42) (tgt := 48) eX0_test_39 rfl (by decide) (fun c_39 => ?_) (fun c_39 => ?_)
      · exact absurd c_39 (by decide)
      · refine aw_aload_n (pc' := 43) eX0_test_42 rfl rfl trivial ?_
        refine aw_iconst (pc' := 44) (v := 0) eX0_test_43 rfl (by decide) ?_
        refine aw_Rfit (pc' := 47) false hR eX0_test_44 rfl q187 rfl (fun h6 hR4 hs5 => ?_)
        refine aw_ret (v := none) eX0_test_47 rfl (by omega) (by omega) rfl ?_
        have hz : pNm R n mLe (a, b) 6 = -1 := pNm_ge (by have := ge_nI (a := a) (b := n) (by omega) (by omega) c_15; omega) 6
        rw [pT_no hz]
        exact ⟨rfl, ss, hR4, SO.no (Nat.le_refl _), hs5⟩
    · have c9 := nge_nI (by omega) (by omega) c_15
      obtain ⟨c, hc, ec⟩ := hA a c9
      refine aw_ldcS (pc' := 20) (a := 3) (tx := "pkvwad") eX0_test_18 rfl (by decide) (by decide) ?_
      refine aw_aload_n (pc' := 21) eX0_test_20 rfl rfl trivial ?_
      refine aw_Oget (pc' := 24) (ci := 0) (kf := 0) (N := 7) (.ref (e + 1)) (hR).1 eX0_test_21 rfl rfl rfl inX0 (by decide) q182 rfl ?_
      refine aw_aload_n (pc' := 25) eX0_test_24 rfl rfl trivial ?_
      refine aw_Oget (pc' := 28) (ci := 0) (kf := 3) (N := 7) (.int (nI (a))) (hR).1 eX0_test_25 rfl rfl rfl inX0 (by decide) q186 rfl ?_
      refine aw_Rtx (pc' := 29) a hR eX0_test_28 rfl c9 rfl (by omega) ?_
      rw [ec]
      refine aw_i2c (pc' := 30) eX0_test_29 rfl ?_
      rw [asc16 hc]
      refine aw_callS (pc' := 33) (nn := 1) (c_J0_indexOf_0f7a4 (d := d - 1) hc (by omega)) eX0_test_30 rfl ⟨q493, q496, q57⟩ q494 q495 ⟨rfl, by decide +kernel, by decide +kernel, by decide +kernel⟩ rfl ⟨by omega, by omega⟩ ⟨by omega, by decide⟩ ⟨by omega, by omega⟩ rfl (Nat.le_of_ble_eq_true rfl) (fun v7 h8 hq9 => ?_)
      obtain ⟨rfl, rfl⟩ := hq9
      rw [← ec]
      dsimp only [Option.toList, List.cons_append, List.nil_append]
      refine aw_goto eX0_test_33 (by decide) (tgt := 37) ?_
      refine aw_istore_n (pc' := 38) eX0_test_37 rfl (by decide) ?_
      dsimp only [zst, zst2, zcut]
      refine aw_iload_n (pc' := 39) eX0_test_38 rfl rfl ?_
      refine aw_if_ge (pc' := 42) (tgt := 48) eX0_test_39 rfl (by decide) (fun c_39 => ?_) (fun c_39 => ?_)
      · obtain ⟨j, hj6, ej⟩ := (ixF_or (R a) 6 (by omega)).resolve_left (fun z => by rw [z] at c_39; exact absurd c_39 (by decide))
        have hj : pNm R n mLe (a, b) 6 = nI j := (ix_nm (zb_ne0.mp c_4) c9).trans ej
        rw [ej]
        refine aw_aload_n (pc' := 49) eX0_test_48 rfl rfl trivial ?_
        refine aw_dup (pc' := 50) eX0_test_49 rfl rfl ?_
        refine aw_Oget (pc' := 53) (ci := 0) (kf := 3) (N := 7) (.int (nI (a))) (hR).1 eX0_test_50 rfl rfl rfl inX0 (by decide) q186 rfl ?_
        refine aw_iconst (pc' := 54) (v := 1) eX0_test_53 rfl (by decide) ?_
        refine aw_iadd (pc' := 55) eX0_test_54 rfl ?_
        refine aw_Rat (pc' := 58) (a + 1) hR eX0_test_55 rfl q186 (nI_1 (a)) (fun h12 hR10 hs11 => ?_)
        refine aw_aload_n (pc' := 59) eX0_test_58 rfl rfl trivial ?_
        refine aw_callv (pc' := 62) (nn := 0) (c_X0_sign (d := d - 1) hR10 hn (by omega) (by omega)) eX0_test_59 rfl ⟨q424, q427, q59⟩ q426 q8 ⟨rfl, by decide +kernel, by decide +kernel, by decide +kernel⟩ rfl (hR10).ob rfl ⟨by omega, by decide⟩ ⟨by omega, by omega⟩ rfl (Nat.le_of_ble_eq_true rfl) (fun v13 h14 hq15 => ?_)
        obtain ⟨rfl, rfl⟩ := hq15
        dsimp only [Option.toList, List.cons_append, List.nil_append]
        refine aw_bipush (pc' := 64) (v := 60) eX0_test_62 rfl (by decide) ?_
        refine aw_isub (pc' := 65) eX0_test_64 rfl ?_
        refine aw_istore_n (pc' := 66) eX0_test_65 rfl (by decide) ?_
        dsimp only [zst, zst2, zcut]
        refine aw_iload_n (pc' := 67) eX0_test_66 rfl rfl ?_
        refine aw_if_lt (pc' := 70) (tgt := 75) eX0_test_67 rfl (by decide) (fun c_67 => ?_) (fun c_67 => ?_)
        · refine aw_aload_n (pc' := 76) eX0_test_75 rfl rfl trivial ?_
          refine aw_iconst (pc' := 77) (v := 0) eX0_test_76 rfl (by decide) ?_
          refine aw_Rfit (pc' := 80) false hR10 eX0_test_77 rfl q187 rfl (fun h18 hR16 hs17 => ?_)
          have hT19 := hs11.tr hs17
          refine aw_ret (v := none) eX0_test_80 rfl (by omega) (by omega) rfl ?_
          rw [pT_bad hA hj hj6 (Or.inl c_67)]
          exact ⟨rfl, ss, hR16, SO.no (Nat.le_succ _), hT19⟩
        · refine aw_iload_n (pc' := 71) eX0_test_70 rfl rfl ?_
          refine aw_iconst (pc' := 72) (v := 2) eX0_test_71 rfl (by decide) ?_
          refine aw_icmp_le (pc' := 75) (tgt := 81) eX0_test_72 rfl (by decide) (fun c_72 => ?_) (fun c_72 => ?_)
          · have z3 := sg3 hA c_67 c_72
            refine aw_aload_n (pc' := 82) eX0_test_81 rfl rfl trivial ?_
            refine aw_dup (pc' := 83) eX0_test_82 rfl rfl ?_
            refine aw_Oget (pc' := 86) (ci := 0) (kf := 3) (N := 7) (.int (nI (a + 1))) (hR10).1 eX0_test_83 rfl rfl rfl inX0 (by decide) q186 rfl ?_
            refine aw_iconst (pc' := 87) (v := 1) eX0_test_86 rfl (by decide) ?_
            refine aw_iadd (pc' := 88) eX0_test_87 rfl ?_
            refine aw_Rat (pc' := 91) (a + 1 + 1) hR10 eX0_test_88 rfl q186 (nI_1 (a + 1)) (fun h22 hR20 hs21 => ?_)
            have hT23 := hs11.tr hs21
            refine aw_aload_n (pc' := 92) eX0_test_91 rfl rfl trivial ?_
            refine aw_iload_n (pc' := 93) eX0_test_92 rfl rfl ?_
            refine aw_iload_n (pc' := 94) eX0_test_93 rfl rfl ?_
            refine aw_aload_n (pc' := 95) eX0_test_94 rfl rfl trivial ?_
            refine aw_callv (pc' := 98) (nn := 0) (c_X0_number (d := d - 1) hR20 hn hA (by omega) (by omega)) eX0_test_95 rfl ⟨q472, q475, q59⟩ q474 q10 ⟨rfl, by decide +kernel, by decide +kernel, by decide +kernel⟩ rfl (hR20).ob rfl ⟨by omega, by decide⟩ ⟨by omega, by omega⟩ rfl (Nat.le_of_ble_eq_true rfl) (fun v26 h27 hq28 => ?_)
            obtain ⟨rfl, hR24, hs25⟩ := hq28
            have hT29 := hT23.tr hs25
            dsimp only [Option.toList, List.cons_append, List.nil_append]
            refine aw_callv (pc' := 101) (nn := 3) (c_X0_step (d := d - 1) hR24 (fun _ => by omega) (by omega) _ _ _ (by omega)) eX0_test_98 rfl ⟨q550, q553, q59⟩ q552 q14 ⟨rfl, by decide +kernel, by decide +kernel, by decide +kernel⟩ rfl (hR24).ob rfl ⟨by omega, by decide⟩ ⟨by omega, by omega⟩ rfl (Nat.le_of_ble_eq_true rfl) (fun v32 h33 hq34 => ?_)
            obtain ⟨rfl, hR30, hs31⟩ := hq34
            have hT35 := hT29.tr hs31
            dsimp only [Option.toList, List.cons_append, List.nil_append]
            refine aw_ret (v := none) eX0_test_101 rfl (by omega) (by omega) rfl ?_
            have hso := test_SO (ss := ss) (x := _) hA (zb_ne0.mp c_4) hj hj6 z3.1 z3.2.1 rfl
            rw [pT_ok (zb_ne0.mp c_4) hj hj6 z3.1 z3.2.1]
            rw [← z3.2.2] at hso
            exact ⟨rfl, _, hR30, hso, hT35⟩
          · refine aw_aload_n (pc' := 76) eX0_test_75 rfl rfl trivial ?_
            refine aw_iconst (pc' := 77) (v := 0) eX0_test_76 rfl (by decide) ?_
            refine aw_Rfit (pc' := 80) false hR10 eX0_test_77 rfl q187 rfl (fun h38 hR36 hs37 => ?_)
            have hT39 := hs11.tr hs37
            refine aw_ret (v := none) eX0_test_80 rfl (by omega) (by omega) rfl ?_
            rw [pT_bad hA hj hj6 (Or.inr c_72)]
            exact ⟨rfl, ss, hR36, SO.no (Nat.le_succ _), hT39⟩
      · refine aw_aload_n (pc' := 43) eX0_test_42 rfl rfl trivial ?_
        refine aw_iconst (pc' := 44) (v := 0) eX0_test_43 rfl (by decide) ?_
        refine aw_Rfit (pc' := 47) false hR eX0_test_44 rfl q187 rfl (fun h42 hR40 hs41 => ?_)
        refine aw_ret (v := none) eX0_test_47 rfl (by omega) (by omega) rfl ?_
        have hz : pNm R n mLe (a, b) 6 = -1 := (ix_nm (zb_ne0.mp c_4) c9).trans ((ixF_or (R a) 6 (by omega)).resolve_right (fun ⟨j, hj, ej⟩ => by rw [ej] at c_39; exact c_39 (Int32.le_iff_toInt_le.mpr (by rw [nI_toInt (by omega), show (0 : Int32).toInt = 0 from by decide]; omega))))
        rw [pT_no hz]
        exact ⟨rfl, ss, hR40, SO.no (Nat.le_refl _), hs41⟩
abbrev mX0_single : MT := (RX0, cX0_single, 5, none, false)
theorem eX0_single_0 : decode mX0_single.2.1 0 = .ok (.iconst 0, 1) := by decide +kernel
theorem eX0_single_1 : decode mX0_single.2.1 1 = .ok (.istore_n 2, 1) := by decide +kernel
theorem eX0_single_2 : decode mX0_single.2.1 2 = .ok (.iload_n 1, 1) := by decide +kernel
theorem eX0_single_3 : decode mX0_single.2.1 3 = .ok (.iload_n 2, 1) := by decide +kernel
theorem eX0_single_4 : decode mX0_single.2.1 4 = .ok (.iadd, 1) := by decide +kernel
theorem eX0_single_5 : decode mX0_single.2.1 5 = .ok (.iconst 4, 1) := by decide +kernel
theorem eX0_single_6 : decode mX0_single.2.1 6 = .ok (.if_icmp .ge 35, 3) := by decide +kernel
theorem eX0_single_9 : decode mX0_single.2.1 9 = .ok (.aload_n 0, 1) := by decide +kernel
theorem eX0_single_10 : decode mX0_single.2.1 10 = .ok (.getfield 26, 3) := by decide +kernel
theorem eX0_single_13 : decode mX0_single.2.1 13 = .ok (.ifCond .eq 28, 3) := by decide +kernel
theorem eX0_single_16 : decode mX0_single.2.1 16 = .ok (.aload_n 0, 1) := by decide +kernel
theorem eX0_single_17 : decode mX0_single.2.1 17 = .ok (.invokevirtual 39, 3) := by decide +kernel
theorem eX0_single_20 : decode mX0_single.2.1 20 = .ok (.bipush 33, 2) := by decide +kernel
theorem eX0_single_22 : decode mX0_single.2.1 22 = .ok (.if_icmp .ne 19, 3) := by decide +kernel
theorem eX0_single_25 : decode mX0_single.2.1 25 = .ok (.aload_n 0, 1) := by decide +kernel
theorem eX0_single_26 : decode mX0_single.2.1 26 = .ok (.dup, 1) := by decide +kernel
theorem eX0_single_27 : decode mX0_single.2.1 27 = .ok (.getfield 23, 3) := by decide +kernel
theorem eX0_single_30 : decode mX0_single.2.1 30 = .ok (.iconst 1, 1) := by decide +kernel
theorem eX0_single_31 : decode mX0_single.2.1 31 = .ok (.iadd, 1) := by decide +kernel
theorem eX0_single_32 : decode mX0_single.2.1 32 = .ok (.putfield 23, 3) := by decide +kernel
theorem eX0_single_35 : decode mX0_single.2.1 35 = .ok (.iinc 2 1, 3) := by decide +kernel
theorem eX0_single_38 : decode mX0_single.2.1 38 = .ok (.goto (-36), 3) := by decide +kernel
theorem eX0_single_41 : decode mX0_single.2.1 41 = .ok (.iload_n 1, 1) := by decide +kernel
theorem eX0_single_42 : decode mX0_single.2.1 42 = .ok (.iload_n 2, 1) := by decide +kernel
theorem eX0_single_43 : decode mX0_single.2.1 43 = .ok (.iadd, 1) := by decide +kernel
theorem eX0_single_44 : decode mX0_single.2.1 44 = .ok (.istore_n 3, 1) := by decide +kernel
theorem eX0_single_45 : decode mX0_single.2.1 45 = .ok (.iload_n 3, 1) := by decide +kernel
theorem eX0_single_46 : decode mX0_single.2.1 46 = .ok (.iconst 4, 1) := by decide +kernel
theorem eX0_single_47 : decode mX0_single.2.1 47 = .ok (.if_icmp .ge 45, 3) := by decide +kernel
theorem eX0_single_50 : decode mX0_single.2.1 50 = .ok (.aload_n 0, 1) := by decide +kernel
theorem eX0_single_51 : decode mX0_single.2.1 51 = .ok (.getfield 26, 3) := by decide +kernel
theorem eX0_single_54 : decode mX0_single.2.1 54 = .ok (.ifCond .eq 38, 3) := by decide +kernel
theorem eX0_single_57 : decode mX0_single.2.1 57 = .ok (.aload_n 0, 1) := by decide +kernel
theorem eX0_single_58 : decode mX0_single.2.1 58 = .ok (.invokevirtual 39, 3) := by decide +kernel
theorem eX0_single_61 : decode mX0_single.2.1 61 = .ok (.bipush 40, 2) := by decide +kernel
theorem eX0_single_63 : decode mX0_single.2.1 63 = .ok (.if_icmp .ne 29, 3) := by decide +kernel
theorem eX0_single_66 : decode mX0_single.2.1 66 = .ok (.aload_n 0, 1) := by decide +kernel
theorem eX0_single_67 : decode mX0_single.2.1 67 = .ok (.dup, 1) := by decide +kernel
theorem eX0_single_68 : decode mX0_single.2.1 68 = .ok (.getfield 23, 3) := by decide +kernel
theorem eX0_single_71 : decode mX0_single.2.1 71 = .ok (.iconst 1, 1) := by decide +kernel
theorem eX0_single_72 : decode mX0_single.2.1 72 = .ok (.iadd, 1) := by decide +kernel
theorem eX0_single_73 : decode mX0_single.2.1 73 = .ok (.putfield 23, 3) := by decide +kernel
theorem eX0_single_76 : decode mX0_single.2.1 76 = .ok (.aload_n 0, 1) := by decide +kernel
theorem eX0_single_77 : decode mX0_single.2.1 77 = .ok (.iload_n 3, 1) := by decide +kernel
theorem eX0_single_78 : decode mX0_single.2.1 78 = .ok (.iconst 1, 1) := by decide +kernel
theorem eX0_single_79 : decode mX0_single.2.1 79 = .ok (.iadd, 1) := by decide +kernel
theorem eX0_single_80 : decode mX0_single.2.1 80 = .ok (.invokevirtual 69, 3) := by decide +kernel
theorem eX0_single_83 : decode mX0_single.2.1 83 = .ok (.aload_n 0, 1) := by decide +kernel
theorem eX0_single_84 : decode mX0_single.2.1 84 = .ok (.ldc 80, 2) := by decide +kernel
theorem eX0_single_86 : decode mX0_single.2.1 86 = .ok (.invokevirtual 56, 3) := by decide +kernel
theorem eX0_single_89 : decode mX0_single.2.1 89 = .ok (.goto 7, 3) := by decide +kernel
theorem eX0_single_92 : decode mX0_single.2.1 92 = .ok (.aload_n 0, 1) := by decide +kernel
theorem eX0_single_93 : decode mX0_single.2.1 93 = .ok (.invokevirtual 82, 3) := by decide +kernel
theorem eX0_single_96 : decode mX0_single.2.1 96 = .ok (.iconst 0, 1) := by decide +kernel
theorem eX0_single_97 : decode mX0_single.2.1 97 = .ok (.istore 4, 2) := by decide +kernel
theorem eX0_single_99 : decode mX0_single.2.1 99 = .ok (.iload 4, 2) := by decide +kernel
theorem eX0_single_101 : decode mX0_single.2.1 101 = .ok (.iload_n 2, 1) := by decide +kernel
theorem eX0_single_102 : decode mX0_single.2.1 102 = .ok (.if_icmp .ge 16, 3) := by decide +kernel
theorem eX0_single_105 : decode mX0_single.2.1 105 = .ok (.aload_n 0, 1) := by decide +kernel
theorem eX0_single_106 : decode mX0_single.2.1 106 = .ok (.iconst 3, 1) := by decide +kernel
theorem eX0_single_107 : decode mX0_single.2.1 107 = .ok (.iconst 0, 1) := by decide +kernel
theorem eX0_single_108 : decode mX0_single.2.1 108 = .ok (.iconst 0, 1) := by decide +kernel
theorem eX0_single_109 : decode mX0_single.2.1 109 = .ok (.invokevirtual 73, 3) := by decide +kernel
theorem eX0_single_112 : decode mX0_single.2.1 112 = .ok (.iinc 4 1, 3) := by decide +kernel
theorem eX0_single_115 : decode mX0_single.2.1 115 = .ok (.goto (-16), 3) := by decide +kernel
theorem eX0_single_118 : decode mX0_single.2.1 118 = .ok (.return_, 1) := by decide +kernel
abbrev mX0_either : MT := (RX0, cX0_either, 5, none, false)
theorem eX0_either_0 : decode mX0_either.2.1 0 = .ok (.iconst 0, 1) := by decide +kernel
theorem eX0_either_1 : decode mX0_either.2.1 1 = .ok (.istore_n 2, 1) := by decide +kernel
theorem eX0_either_2 : decode mX0_either.2.1 2 = .ok (.aload_n 0, 1) := by decide +kernel
theorem eX0_either_3 : decode mX0_either.2.1 3 = .ok (.iload_n 1, 1) := by decide +kernel
theorem eX0_either_4 : decode mX0_either.2.1 4 = .ok (.invokevirtual 77, 3) := by decide +kernel
theorem eX0_either_7 : decode mX0_either.2.1 7 = .ok (.iconst 0, 1) := by decide +kernel
theorem eX0_either_8 : decode mX0_either.2.1 8 = .ok (.istore_n 3, 1) := by decide +kernel
theorem eX0_either_9 : decode mX0_either.2.1 9 = .ok (.iload_n 3, 1) := by decide +kernel
theorem eX0_either_10 : decode mX0_either.2.1 10 = .ok (.bipush 100, 2) := by decide +kernel
theorem eX0_either_12 : decode mX0_either.2.1 12 = .ok (.if_icmp .ge 108, 3) := by decide +kernel
theorem eX0_either_15 : decode mX0_either.2.1 15 = .ok (.aload_n 0, 1) := by decide +kernel
theorem eX0_either_16 : decode mX0_either.2.1 16 = .ok (.getfield 26, 3) := by decide +kernel
theorem eX0_either_19 : decode mX0_either.2.1 19 = .ok (.ifCond .eq 101, 3) := by decide +kernel
theorem eX0_either_22 : decode mX0_either.2.1 22 = .ok (.aload_n 0, 1) := by decide +kernel
theorem eX0_either_23 : decode mX0_either.2.1 23 = .ok (.invokevirtual 39, 3) := by decide +kernel
theorem eX0_either_26 : decode mX0_either.2.1 26 = .ok (.bipush 38, 2) := by decide +kernel
theorem eX0_either_28 : decode mX0_either.2.1 28 = .ok (.if_icmp .eq 12, 3) := by decide +kernel
theorem eX0_either_31 : decode mX0_either.2.1 31 = .ok (.aload_n 0, 1) := by decide +kernel
theorem eX0_either_32 : decode mX0_either.2.1 32 = .ok (.invokevirtual 39, 3) := by decide +kernel
theorem eX0_either_35 : decode mX0_either.2.1 35 = .ok (.bipush 124, 2) := by decide +kernel
theorem eX0_either_37 : decode mX0_either.2.1 37 = .ok (.if_icmp .ne 83, 3) := by decide +kernel
theorem eX0_either_40 : decode mX0_either.2.1 40 = .ok (.aload_n 0, 1) := by decide +kernel
theorem eX0_either_41 : decode mX0_either.2.1 41 = .ok (.invokevirtual 39, 3) := by decide +kernel
theorem eX0_either_44 : decode mX0_either.2.1 44 = .ok (.bipush 38, 2) := by decide +kernel
theorem eX0_either_46 : decode mX0_either.2.1 46 = .ok (.if_icmp .ne 7, 3) := by decide +kernel
theorem eX0_either_49 : decode mX0_either.2.1 49 = .ok (.iconst 1, 1) := by decide +kernel
theorem eX0_either_50 : decode mX0_either.2.1 50 = .ok (.goto 4, 3) := by decide +kernel
theorem eX0_either_53 : decode mX0_either.2.1 53 = .ok (.iconst 0, 1) := by decide +kernel
theorem eX0_either_54 : decode mX0_either.2.1 54 = .ok (.istore 4, 2) := by decide +kernel
theorem eX0_either_56 : decode mX0_either.2.1 56 = .ok (.aload_n 0, 1) := by decide +kernel
theorem eX0_either_57 : decode mX0_either.2.1 57 = .ok (.dup, 1) := by decide +kernel
theorem eX0_either_58 : decode mX0_either.2.1 58 = .ok (.getfield 23, 3) := by decide +kernel
theorem eX0_either_61 : decode mX0_either.2.1 61 = .ok (.iconst 1, 1) := by decide +kernel
theorem eX0_either_62 : decode mX0_either.2.1 62 = .ok (.iadd, 1) := by decide +kernel
theorem eX0_either_63 : decode mX0_either.2.1 63 = .ok (.putfield 23, 3) := by decide +kernel
theorem eX0_either_66 : decode mX0_either.2.1 66 = .ok (.iload 4, 2) := by decide +kernel
theorem eX0_either_68 : decode mX0_either.2.1 68 = .ok (.ifCond .ne 14, 3) := by decide +kernel
theorem eX0_either_71 : decode mX0_either.2.1 71 = .ok (.iload_n 2, 1) := by decide +kernel
theorem eX0_either_72 : decode mX0_either.2.1 72 = .ok (.ifCond .eq 10, 3) := by decide +kernel
theorem eX0_either_75 : decode mX0_either.2.1 75 = .ok (.aload_n 0, 1) := by decide +kernel
theorem eX0_either_76 : decode mX0_either.2.1 76 = .ok (.iconst 5, 1) := by decide +kernel
theorem eX0_either_77 : decode mX0_either.2.1 77 = .ok (.iconst 0, 1) := by decide +kernel
theorem eX0_either_78 : decode mX0_either.2.1 78 = .ok (.iconst 0, 1) := by decide +kernel
theorem eX0_either_79 : decode mX0_either.2.1 79 = .ok (.invokevirtual 73, 3) := by decide +kernel
theorem eX0_either_82 : decode mX0_either.2.1 82 = .ok (.iload_n 2, 1) := by decide +kernel
theorem eX0_either_83 : decode mX0_either.2.1 83 = .ok (.ifCond .ne 8, 3) := by decide +kernel
theorem eX0_either_86 : decode mX0_either.2.1 86 = .ok (.iload 4, 2) := by decide +kernel
theorem eX0_either_88 : decode mX0_either.2.1 88 = .ok (.ifCond .ne 7, 3) := by decide +kernel
theorem eX0_either_91 : decode mX0_either.2.1 91 = .ok (.iconst 1, 1) := by decide +kernel
theorem eX0_either_92 : decode mX0_either.2.1 92 = .ok (.goto 4, 3) := by decide +kernel
theorem eX0_either_95 : decode mX0_either.2.1 95 = .ok (.iconst 0, 1) := by decide +kernel
theorem eX0_either_96 : decode mX0_either.2.1 96 = .ok (.istore_n 2, 1) := by decide +kernel
theorem eX0_either_97 : decode mX0_either.2.1 97 = .ok (.aload_n 0, 1) := by decide +kernel
theorem eX0_either_98 : decode mX0_either.2.1 98 = .ok (.iload_n 1, 1) := by decide +kernel
theorem eX0_either_99 : decode mX0_either.2.1 99 = .ok (.invokevirtual 77, 3) := by decide +kernel
theorem eX0_either_102 : decode mX0_either.2.1 102 = .ok (.iload 4, 2) := by decide +kernel
theorem eX0_either_104 : decode mX0_either.2.1 104 = .ok (.ifCond .eq 10, 3) := by decide +kernel
theorem eX0_either_107 : decode mX0_either.2.1 107 = .ok (.aload_n 0, 1) := by decide +kernel
theorem eX0_either_108 : decode mX0_either.2.1 108 = .ok (.iconst 4, 1) := by decide +kernel
theorem eX0_either_109 : decode mX0_either.2.1 109 = .ok (.iconst 0, 1) := by decide +kernel
theorem eX0_either_110 : decode mX0_either.2.1 110 = .ok (.iconst 0, 1) := by decide +kernel
theorem eX0_either_111 : decode mX0_either.2.1 111 = .ok (.invokevirtual 73, 3) := by decide +kernel
theorem eX0_either_114 : decode mX0_either.2.1 114 = .ok (.iinc 3 1, 3) := by decide +kernel
theorem eX0_either_117 : decode mX0_either.2.1 117 = .ok (.goto (-108), 3) := by decide +kernel
theorem eX0_either_120 : decode mX0_either.2.1 120 = .ok (.iload_n 2, 1) := by decide +kernel
theorem eX0_either_121 : decode mX0_either.2.1 121 = .ok (.ifCond .eq 10, 3) := by decide +kernel
theorem eX0_either_124 : decode mX0_either.2.1 124 = .ok (.aload_n 0, 1) := by decide +kernel
theorem eX0_either_125 : decode mX0_either.2.1 125 = .ok (.iconst 5, 1) := by decide +kernel
theorem eX0_either_126 : decode mX0_either.2.1 126 = .ok (.iconst 0, 1) := by decide +kernel
theorem eX0_either_127 : decode mX0_either.2.1 127 = .ok (.iconst 0, 1) := by decide +kernel
theorem eX0_either_128 : decode mX0_either.2.1 128 = .ok (.invokevirtual 73, 3) := by decide +kernel
theorem eX0_either_131 : decode mX0_either.2.1 131 = .ok (.return_, 1) := by decide +kernel
/-! contracts, by how deep one stands -/
def SgC (l : Launch) (G : GT) (e n : Nat) (R : Nat → Int32) (k : Nat) : Prop := ∀ (d a : Nat) (b : Bool) (ss : List Int32) (r : Int32) (h : Hp), RdAt h e n R a b ss r → a ≤ n → ss.length ≤ a → 14 ≤ d + 2 * k → Ct l G mX0_single yX0_single d 0 0 [.ref e, .int (nI k)] h (fun v h' => v = none ∧ ∃ ss', RdAt h' e n R (PX R n mLe N0 0 k false (a, b)).2.1 (PX R n mLe N0 0 k false (a, b)).2.2 ss' r ∧ SO ss ss' a (PX R n mLe N0 0 k false (a, b)).2.1 (PX R n mLe N0 0 k false (a, b)).2.2 (fun N => (PX R n mLe N 0 k false (a, b)).1) (1 + 2 * (4 - k)) ∧ Same e 3 h h')
def EiC (l : Launch) (G : GT) (e n : Nat) (R : Nat → Int32) (k : Nat) : Prop := ∀ (d a : Nat) (b : Bool) (ss : List Int32) (r : Int32) (h : Hp), RdAt h e n R a b ss r → a ≤ n → ss.length ≤ a → 15 ≤ d + 2 * k → Ct l G mX0_either yX0_either d 0 0 [.ref e, .int (nI k)] h (fun v h' => v = none ∧ ∃ ss', RdAt h' e n R (PX R n mLe N0 3 k false (a, b)).2.1 (PX R n mLe N0 3 k false (a, b)).2.2 ss' r ∧ SO ss ss' a (PX R n mLe N0 3 k false (a, b)).2.1 (PX R n mLe N0 3 k false (a, b)).2.2 (fun N => (PX R n mLe N 3 k false (a, b)).1) (3 + 2 * (4 - k)) ∧ Same e 3 h h')
theorem lpN (hn : n ≤ 100) (hA : RA R n) (hd : 1 ≤ d) (hk : k ≤ 4) {h0 : Hp} (hT : ∀ j h', RdAt h' e n R (a + j) b ss r → Same e 3 h0 h' → a + j ≤ n → (∀ i, i < j → k + i < 4 ∧ pAt R n (a + i, b) 33 = true) → ¬ (k + j < 4 ∧ pAt R n (a + j, b) 33 = true) → AW l G mX0_single d 0 0 Q 0 0 h' [some (.ref e), some (.int (nI k)), some (.int (nI j)), none, none] [] 41) : ∀ (g j : Nat) (y : Int32) (h : Hp), g = 4 - (k + j) → a + j ≤ n → j ≤ 5 → y = nI j → RdAt h e n R (a + j) b ss r → Same e 3 h0 h → (∀ i, i < j → k + i < 4 ∧ pAt R n (a + i, b) 33 = true) → AW l G mX0_single d 0 0 Q 0 0 h [some (.ref e), some (.int (nI k)), some (.int y), none, none] [] 2 := by
  intro g
  induction g using Nat.strongRecOn with
  | _ g ih =>
    intro j y h hg hja hj5 hy hR hs hpre
    subst hy hg
    refine aw_iload_n (pc' := 3) eX0_single_2 rfl rfl ?_
    refine aw_iload_n (pc' := 4) eX0_single_3 rfl rfl ?_
    refine aw_iadd (pc' := 5) eX0_single_4 rfl ?_
    rw [nI_add]
    refine aw_iconst (pc' := 6) (v := 4) eX0_single_5 rfl (by decide) ?_
    refine aw_icmp_ge (pc' := 9) (tgt := 41) eX0_single_6 rfl (by decide) (fun c_6 => ?_) (fun c_6 => ?_)
    · exact hT j _ hR hs hja hpre (fun z => absurd (ge_nI (a := k + j) (b := 4) (by omega) (by omega) c_6) (by omega))
    · have c9 := nge_nI (a := k + j) (b := 4) (by omega) (by omega) c_6
      refine aw_aload_n (pc' := 10) eX0_single_9 rfl rfl trivial ?_
      refine aw_Oget (pc' := 13) (ci := 0) (kf := 4) (N := 7) (.int (zb b)) (hR).1 eX0_single_10 rfl rfl rfl inX0 (by decide) q187 rfl ?_
      refine aw_if_eq (pc' := 16) (tgt := 41) eX0_single_13 rfl (by decide) (fun c_13 => ?_) (fun c_13 => ?_)
      · exact hT j _ hR hs hja hpre (fun z => Bool.false_ne_true ((pAt_no (zb_eq0.mp c_13)).symm.trans z.2))
      · refine aw_aload_n (pc' := 17) eX0_single_16 rfl rfl trivial ?_
        refine aw_callv (pc' := 20) (nn := 0) (c_X0_sign (d := d - 1) hR hn hja (by omega)) eX0_single_17 rfl ⟨q424, q427, q59⟩ q426 q8 ⟨rfl, by decide +kernel, by decide +kernel, by decide +kernel⟩ rfl (hR).ob rfl ⟨by omega, by decide⟩ ⟨by omega, by omega⟩ rfl (Nat.le_of_ble_eq_true rfl) (fun v1 h2 hq3 => ?_)
        obtain ⟨rfl, rfl⟩ := hq3
        dsimp only [Option.toList, List.cons_append, List.nil_append]
        refine aw_bipush (pc' := 22) (v := 33) eX0_single_20 rfl (by decide) ?_
        refine aw_icmp_ne (pc' := 25) (tgt := 41) eX0_single_22 rfl (by decide) (fun c_22 => ?_) (fun c_22 => ?_)
        · exact hT j _ hR hs hja hpre (fun z => no_at hA (c := 33) (by omega) c_22 z.2)
        · refine aw_aload_n (pc' := 26) eX0_single_25 rfl rfl trivial ?_
          refine aw_dup (pc' := 27) eX0_single_26 rfl rfl ?_
          refine aw_Oget (pc' := 30) (ci := 0) (kf := 3) (N := 7) (.int (nI (a + j))) (hR).1 eX0_single_27 rfl rfl rfl inX0 (by decide) q186 rfl ?_
          refine aw_iconst (pc' := 31) (v := 1) eX0_single_30 rfl (by decide) ?_
          refine aw_iadd (pc' := 32) eX0_single_31 rfl ?_
          refine aw_Rat (pc' := 35) (a + j + 1) hR eX0_single_32 rfl q186 (nI_1 (a + j)) (fun h6 hR4 hs5 => ?_)
          refine aw_iinc (pc' := 38) eX0_single_35 rfl rfl rfl (by decide) ?_
          dsimp only [zst, zst2, zcut]
          refine aw_goto eX0_single_38 (by decide) (tgt := 2) ?_
          have hp33 : pAt R n (a + j, b) 33 = true := yes_at hA (c := 33) (by omega) (zb_ne0.mp c_13) c_22
          have hlt := pAt_lt hp33
          exact ih (4 - (k + (j + 1))) (by omega) (j + 1) _ _ rfl (by have : a + j < n := hlt; omega) (by omega) (nI_inc j) hR4 (hs.tr hs5) (fun i hi => by
            by_cases c : i = j
            · subst c; exact ⟨by omega, hp33⟩
            · exact hpre i (by omega))
theorem lpM {A j : Nat} {B : Bool} {ss1 : List Int32} {x3 : Int32} (hj : j ≤ 10) (hl : B = true → ss1.length + j ≤ 100) (hl1 : ss1.length ≤ 100) (hd : 2 ≤ d) {h0 : Hp} (hQ : ∀ h', RdAt h' e n R A B (if B = true then ss1 ++ List.replicate j (enc 3 0 0) else ss1) r → Same e 3 h0 h' → Q none h') : ∀ (g i : Nat) (y : Int32) (h : Hp), g = j - i → i ≤ j → y = nI i → RdAt h e n R A B (if B = true then ss1 ++ List.replicate i (enc 3 0 0) else ss1) r → Same e 3 h0 h → AW l G mX0_single d 0 0 Q 0 0 h [some (.ref e), some (.int (nI k)), some (.int (nI j)), some (.int x3), some (.int y)] [] 99 := by
  intro g
  induction g using Nat.strongRecOn with
  | _ g ih =>
    intro i y h hg hij hy hR hs
    subst hy hg
    have hlen : (if B = true then ss1 ++ List.replicate i (enc 3 0 0) else ss1).length < 2147483648 := by
      split
      · rw [List.length_append, List.length_replicate]; omega
      · omega
    refine aw_iload (pc' := 101) eX0_single_99 rfl rfl ?_
    refine aw_iload_n (pc' := 102) eX0_single_101 rfl rfl ?_
    refine aw_icmp_ge (pc' := 105) (tgt := 118) eX0_single_102 rfl (by decide) (fun c_102 => ?_) (fun c_102 => ?_)
    · have c9 := ge_nI (by omega) (by omega) c_102
      obtain rfl : i = j := by omega
      refine aw_ret (v := none) eX0_single_118 rfl (by omega) (by omega) rfl ?_
      exact hQ _ hR hs
    · have c9 := nge_nI (by omega) (by omega) c_102
      refine aw_aload_n (pc' := 106) eX0_single_105 rfl rfl trivial ?_
      refine aw_iconst (pc' := 107) (v := 3) eX0_single_106 rfl (by decide) ?_
      refine aw_iconst (pc' := 108) (v := 0) eX0_single_107 rfl (by decide) ?_
      refine aw_iconst (pc' := 109) (v := 0) eX0_single_108 rfl (by decide) ?_
      refine aw_callv (pc' := 112) (nn := 3) (c_X0_step (d := d - 1) hR (fun hB => by rw [if_pos hB, List.length_append, List.length_replicate]; have := hl hB; omega) hlen _ _ _ (by omega)) eX0_single_109 rfl ⟨q550, q553, q59⟩ q552 q14 ⟨rfl, by decide +kernel, by decide +kernel, by decide +kernel⟩ rfl (hR).ob rfl ⟨by omega, by decide⟩ ⟨by omega, by omega⟩ rfl (Nat.le_of_ble_eq_true rfl) (fun v3 h4 hq5 => ?_)
      obtain ⟨rfl, hR1, hs2⟩ := hq5
      dsimp only [Option.toList, List.cons_append, List.nil_append]
      refine aw_iinc (pc' := 115) eX0_single_112 rfl rfl rfl (by decide) ?_
      dsimp only [zst, zst2, zcut]
      refine aw_goto eX0_single_115 (by decide) (tgt := 99) ?_
      refine ih (j - (i + 1)) (by omega) (i + 1) _ _ rfl (by omega) (nI_inc i) ?_ (hs.tr hs2)
      have z9 := hR1
      by_cases hB : B = true
      · rw [if_pos hB, if_pos hB, List.append_assoc] at z9
        rw [if_pos hB, List.replicate_succ']
        exact z9
      · rw [if_neg hB, if_neg hB] at z9
        rw [if_neg hB]
        exact z9
theorem mk_SgC (hn : n ≤ 100) (hA : RA R n) (hk : k ≤ 4) (ihE : ∀ {j : Nat}, k + j < 4 → EiC l G e n R (k + j + 1)) : SgC l G e n R k := by
  intro d a b ss r h hR ha hl hd
  refine ct_of (lv := [some (.ref e), some (.int (nI k)), none, none, none]) (by decide +kernel) rfl (fun z => by cases z) (fun _ => rfl) (fun _ => Nat.le_of_ble_eq_true rfl) ?_
  refine aw_iconst (pc' := 1) (v := 0) eX0_single_0 rfl (by decide) ?_
  refine aw_istore_n (pc' := 2) eX0_single_1 rfl (by decide) ?_
  dsimp only [zst, zst2, zcut]
  refine lpN hn hA (by omega) hk (fun j h1 hR hs hja hpre hno => ?_) (4 - (k + 0)) 0 _ _ rfl ha (by omega) rfl hR Same.rf (fun i hi => absurd hi (Nat.not_lt_zero i))
  have hj10 : j ≤ 10 := by
    by_cases c : j = 0
    · omega
    · have := (hpre (j - 1) (by omega)).1; omega
  refine aw_iload_n (pc' := 42) eX0_single_41 rfl rfl ?_
  refine aw_iload_n (pc' := 43) eX0_single_42 rfl rfl ?_
  refine aw_iadd (pc' := 44) eX0_single_43 rfl ?_
  rw [nI_add]
  refine aw_istore_n (pc' := 45) eX0_single_44 rfl (by decide) ?_
  dsimp only [zst, zst2, zcut]
  refine aw_iload_n (pc' := 46) eX0_single_45 rfl rfl ?_
  refine aw_iconst (pc' := 47) (v := 4) eX0_single_46 rfl (by decide) ?_
  refine aw_icmp_ge (pc' := 50) (tgt := 92) eX0_single_47 rfl (by decide) (fun c_47 => ?_) (fun c_47 => ?_)
  · refine aw_aload_n (pc' := 93) eX0_single_92 rfl rfl trivial ?_
    refine aw_callv (pc' := 96) (nn := 0) (c_X0_test (d := d - 1) hR hn hA hja (by omega) (by omega)) eX0_single_93 rfl ⟨q488, q491, q59⟩ q490 q13 ⟨rfl, by decide +kernel, by decide +kernel, by decide +kernel⟩ rfl (hR).ob rfl ⟨by omega, by decide⟩ ⟨by omega, by omega⟩ rfl (Nat.le_of_ble_eq_true rfl) (fun v3 h4 hq5 => ?_)
    obtain ⟨rfl, ss1, hR1, hso, hs2⟩ := hq5
    dsimp only [Option.toList, List.cons_append, List.nil_append]
    have hno2 : ¬ (k + j < 4 ∧ pAt R n (a + j, b) 40 = true) := fun z => absurd (ge_nI (a := k + j) (b := 4) (by omega) (by omega) c_47) (by omega)
    have eP : ∀ N, PX R n mLe N 0 (k + j) false (a + j, b) = pTest R n mLe N (a + j, b) := fun N => by rw [PX0 hn (show (a + j, b).1 ≤ n from hja), if_neg hno, if_neg hno2]
    have hso2 : SO ss ss1 (a + j) (PX R n mLe N0 0 (k + j) false (a + j, b)).2.1 (PX R n mLe N0 0 (k + j) false (a + j, b)).2.2 (fun N => (PX R n mLe N 0 (k + j) false (a + j, b)).1) 1 := by
      simp only [eP]
      exact hso
    have hR9 := RdAt.cv (a' := (PX R n mLe N0 0 (k + j) false (a + j, b)).2.1) (b' := (PX R n mLe N0 0 (k + j) false (a + j, b)).2.2) hR1 (congrArg (fun z => z.2.1) (eP N0)).symm (congrArg (fun z => z.2.2) (eP N0)).symm
    have hso3 := (SO.nots (a := a) (V' := fun N => (PX R n mLe N 0 k false (a, b)).1) hso2 (fun N => by rw [PXn hn j ha hpre])).le (w' := 1 + 2 * (4 - k)) (by omega)
    have hA9 := (PX_mon (R := R) (L := mLe) (N := N0) (t := 0) (k := k + j) (b := false) (show (a + j, b).1 ≤ n from hja)).2
    have hlen := hso2.1
    refine aw_iconst (pc' := 97) (v := 0) eX0_single_96 rfl (by decide) ?_
    refine aw_istore (pc' := 99) eX0_single_97 rfl (by decide) ?_
    dsimp only [zst, zst2, zcut]
    rw [PXn hn j ha hpre]
    exact lpM (k := k) hj10 (fun _ => by omega) (by omega) (by omega) (fun h' x y => ⟨rfl, _, x, hso3, y⟩) j 0 _ _ (by omega) (by omega) rfl (by simpa using hR9) (hs.tr hs2)
  · have c9 := nge_nI (a := k + j) (b := 4) (by omega) (by omega) c_47
    refine aw_aload_n (pc' := 51) eX0_single_50 rfl rfl trivial ?_
    refine aw_Oget (pc' := 54) (ci := 0) (kf := 4) (N := 7) (.int (zb b)) (hR).1 eX0_single_51 rfl rfl rfl inX0 (by decide) q187 rfl ?_
    refine aw_if_eq (pc' := 57) (tgt := 92) eX0_single_54 rfl (by decide) (fun c_54 => ?_) (fun c_54 => ?_)
    · refine aw_aload_n (pc' := 93) eX0_single_92 rfl rfl trivial ?_
      refine aw_callv (pc' := 96) (nn := 0) (c_X0_test (d := d - 1) hR hn hA hja (by omega) (by omega)) eX0_single_93 rfl ⟨q488, q491, q59⟩ q490 q13 ⟨rfl, by decide +kernel, by decide +kernel, by decide +kernel⟩ rfl (hR).ob rfl ⟨by omega, by decide⟩ ⟨by omega, by omega⟩ rfl (Nat.le_of_ble_eq_true rfl) (fun v8 h9 hq10 => ?_)
      obtain ⟨rfl, ss1, hR6, hso, hs7⟩ := hq10
      dsimp only [Option.toList, List.cons_append, List.nil_append]
      have hno2 : ¬ (k + j < 4 ∧ pAt R n (a + j, b) 40 = true) := fun z => Bool.false_ne_true ((pAt_no (zb_eq0.mp c_54)).symm.trans z.2)
      have eP : ∀ N, PX R n mLe N 0 (k + j) false (a + j, b) = pTest R n mLe N (a + j, b) := fun N => by rw [PX0 hn (show (a + j, b).1 ≤ n from hja), if_neg hno, if_neg hno2]
      have hso2 : SO ss ss1 (a + j) (PX R n mLe N0 0 (k + j) false (a + j, b)).2.1 (PX R n mLe N0 0 (k + j) false (a + j, b)).2.2 (fun N => (PX R n mLe N 0 (k + j) false (a + j, b)).1) 1 := by
        simp only [eP]
        exact hso
      have hR9 := RdAt.cv (a' := (PX R n mLe N0 0 (k + j) false (a + j, b)).2.1) (b' := (PX R n mLe N0 0 (k + j) false (a + j, b)).2.2) hR6 (congrArg (fun z => z.2.1) (eP N0)).symm (congrArg (fun z => z.2.2) (eP N0)).symm
      have hso3 := (SO.nots (a := a) (V' := fun N => (PX R n mLe N 0 k false (a, b)).1) hso2 (fun N => by rw [PXn hn j ha hpre])).le (w' := 1 + 2 * (4 - k)) (by omega)
      have hA9 := (PX_mon (R := R) (L := mLe) (N := N0) (t := 0) (k := k + j) (b := false) (show (a + j, b).1 ≤ n from hja)).2
      have hlen := hso2.1
      refine aw_iconst (pc' := 97) (v := 0) eX0_single_96 rfl (by decide) ?_
      refine aw_istore (pc' := 99) eX0_single_97 rfl (by decide) ?_
      dsimp only [zst, zst2, zcut]
      rw [PXn hn j ha hpre]
      exact lpM (k := k) hj10 (fun _ => by omega) (by omega) (by omega) (fun h' x y => ⟨rfl, _, x, hso3, y⟩) j 0 _ _ (by omega) (by omega) rfl (by simpa using hR9) (hs.tr hs7)
    · refine aw_aload_n (pc' := 58) eX0_single_57 rfl rfl trivial ?_
      refine aw_callv (pc' := 61) (nn := 0) (c_X0_sign (d := d - 1) hR hn hja (by omega)) eX0_single_58 rfl ⟨q424, q427, q59⟩ q426 q8 ⟨rfl, by decide +kernel, by decide +kernel, by decide +kernel⟩ rfl (hR).ob rfl ⟨by omega, by decide⟩ ⟨by omega, by omega⟩ rfl (Nat.le_of_ble_eq_true rfl) (fun v11 h12 hq13 => ?_)
      obtain ⟨rfl, rfl⟩ := hq13
      dsimp only [Option.toList, List.cons_append, List.nil_append]
      refine aw_bipush (pc' := 63) (v := 40) eX0_single_61 rfl (by decide) ?_
      refine aw_icmp_ne (pc' := 66) (tgt := 92) eX0_single_63 rfl (by decide) (fun c_63 => ?_) (fun c_63 => ?_)
      · refine aw_aload_n (pc' := 93) eX0_single_92 rfl rfl trivial ?_
        refine aw_callv (pc' := 96) (nn := 0) (c_X0_test (d := d - 1) hR hn hA hja (by omega) (by omega)) eX0_single_93 rfl ⟨q488, q491, q59⟩ q490 q13 ⟨rfl, by decide +kernel, by decide +kernel, by decide +kernel⟩ rfl (hR).ob rfl ⟨by omega, by decide⟩ ⟨by omega, by omega⟩ rfl (Nat.le_of_ble_eq_true rfl) (fun v16 h17 hq18 => ?_)
        obtain ⟨rfl, ss1, hR14, hso, hs15⟩ := hq18
        dsimp only [Option.toList, List.cons_append, List.nil_append]
        have hno2 : ¬ (k + j < 4 ∧ pAt R n (a + j, b) 40 = true) := fun z => no_at hA (c := 40) (by omega) c_63 z.2
        have eP : ∀ N, PX R n mLe N 0 (k + j) false (a + j, b) = pTest R n mLe N (a + j, b) := fun N => by rw [PX0 hn (show (a + j, b).1 ≤ n from hja), if_neg hno, if_neg hno2]
        have hso2 : SO ss ss1 (a + j) (PX R n mLe N0 0 (k + j) false (a + j, b)).2.1 (PX R n mLe N0 0 (k + j) false (a + j, b)).2.2 (fun N => (PX R n mLe N 0 (k + j) false (a + j, b)).1) 1 := by
          simp only [eP]
          exact hso
        have hR9 := RdAt.cv (a' := (PX R n mLe N0 0 (k + j) false (a + j, b)).2.1) (b' := (PX R n mLe N0 0 (k + j) false (a + j, b)).2.2) hR14 (congrArg (fun z => z.2.1) (eP N0)).symm (congrArg (fun z => z.2.2) (eP N0)).symm
        have hso3 := (SO.nots (a := a) (V' := fun N => (PX R n mLe N 0 k false (a, b)).1) hso2 (fun N => by rw [PXn hn j ha hpre])).le (w' := 1 + 2 * (4 - k)) (by omega)
        have hA9 := (PX_mon (R := R) (L := mLe) (N := N0) (t := 0) (k := k + j) (b := false) (show (a + j, b).1 ≤ n from hja)).2
        have hlen := hso2.1
        refine aw_iconst (pc' := 97) (v := 0) eX0_single_96 rfl (by decide) ?_
        refine aw_istore (pc' := 99) eX0_single_97 rfl (by decide) ?_
        dsimp only [zst, zst2, zcut]
        rw [PXn hn j ha hpre]
        exact lpM (k := k) hj10 (fun _ => by omega) (by omega) (by omega) (fun h' x y => ⟨rfl, _, x, hso3, y⟩) j 0 _ _ (by omega) (by omega) rfl (by simpa using hR9) (hs.tr hs15)
      · have hp40 : pAt R n (a + j, b) 40 = true := yes_at hA (c := 40) (by omega) (zb_ne0.mp c_54) c_63
        refine aw_aload_n (pc' := 67) eX0_single_66 rfl rfl trivial ?_
        refine aw_dup (pc' := 68) eX0_single_67 rfl rfl ?_
        refine aw_Oget (pc' := 71) (ci := 0) (kf := 3) (N := 7) (.int (nI (a + j))) (hR).1 eX0_single_68 rfl rfl rfl inX0 (by decide) q186 rfl ?_
        refine aw_iconst (pc' := 72) (v := 1) eX0_single_71 rfl (by decide) ?_
        refine aw_iadd (pc' := 73) eX0_single_72 rfl ?_
        refine aw_Rat (pc' := 76) (a + j + 1) hR eX0_single_73 rfl q186 (nI_1 (a + j)) (fun h21 hR19 hs20 => ?_)
        refine aw_aload_n (pc' := 77) eX0_single_76 rfl rfl trivial ?_
        refine aw_iload_n (pc' := 78) eX0_single_77 rfl rfl ?_
        refine aw_iconst (pc' := 79) (v := 1) eX0_single_78 rfl (by decide) ?_
        refine aw_iadd (pc' := 80) eX0_single_79 rfl ?_
        rw [show nI (k + j) + 1 = nI (k + j + 1) from nI_1 _]
        refine aw_callv (pc' := 83) (nn := 1) (ihE (by omega) (d - 1) (a + j + 1) b ss r _ hR19 (by have := pAt_lt hp40; exact this) (by omega) (by omega)) eX0_single_80 rfl ⟨q479, q482, q59⟩ q481 q11 ⟨rfl, by decide +kernel, by decide +kernel, by decide +kernel⟩ rfl (hR19).ob rfl ⟨by omega, by decide⟩ ⟨by omega, by omega⟩ rfl (Nat.le_of_ble_eq_true rfl) (fun v24 h25 hq26 => ?_)
        obtain ⟨rfl, ss1, hR22, hso, hs23⟩ := hq26
        have hT27 := hs20.tr hs23
        dsimp only [Option.toList, List.cons_append, List.nil_append]
        refine aw_aload_n (pc' := 84) eX0_single_83 rfl rfl trivial ?_
        refine aw_ldcS (pc' := 86) (a := 8) (tx := ")") eX0_single_84 rfl (by decide) (by decide) ?_
        refine aw_callv (pc' := 89) (nn := 1) (c_X0_letters (d := d - 1) hR22 hn hA (PX_mon (show (a + j + 1, b).1 ≤ n from pAt_lt hp40)).2 (i := 5) (by omega) (by omega)) eX0_single_86 rfl ⟨q429, q432, q59⟩ q431 q9 ⟨rfl, by decide +kernel, by decide +kernel, by decide +kernel⟩ rfl (hR22).ob rfl ⟨by omega, by decide⟩ ⟨by omega, by omega⟩ rfl (Nat.le_of_ble_eq_true rfl) (fun v30 h31 hq32 => ?_)
        obtain ⟨rfl, hR28, hs29⟩ := hq32
        have hT33 := hT27.tr hs29
        dsimp only [Option.toList, List.cons_append, List.nil_append]
        refine aw_goto eX0_single_89 (by decide) (tgt := 96) ?_
        have eP : ∀ N, PX R n mLe N 0 (k + j) false (a + j, b) = ((PX R n mLe N 3 (k + j + 1) false (a + j + 1, b)).1, pTk R n (PX R n mLe N 3 (k + j + 1) false (a + j + 1, b)).2 41) := fun N => by rw [PX0 hn (show (a + j, b).1 ≤ n from hja), if_neg hno, if_pos ⟨by omega, hp40⟩]
        have hso2 := SO.par (R := R) (n := n) (V' := fun N => (PX R n mLe N 0 (k + j) false (a + j, b)).1) (p' := (PX R n mLe N0 0 (k + j) false (a + j, b)).2) hso (fun N => by rw [eP N]) (by rw [eP N0])
        have hR9 := RdAt.cv (a' := (PX R n mLe N0 0 (k + j) false (a + j, b)).2.1) (b' := (PX R n mLe N0 0 (k + j) false (a + j, b)).2.2) hR28 (congrArg (fun z => z.2.1) (eP N0)).symm (congrArg (fun z => z.2.2) (eP N0)).symm
        have hso3 := (SO.nots (a := a) (V' := fun N => (PX R n mLe N 0 k false (a, b)).1) hso2 (fun N => by rw [PXn hn j ha hpre])).le (w' := 1 + 2 * (4 - k)) (by omega)
        have hA9 := (PX_mon (R := R) (L := mLe) (N := N0) (t := 0) (k := k + j) (b := false) (show (a + j, b).1 ≤ n from hja)).2
        have hlen := hso2.1
        refine aw_iconst (pc' := 97) (v := 0) eX0_single_96 rfl (by decide) ?_
        refine aw_istore (pc' := 99) eX0_single_97 rfl (by decide) ?_
        dsimp only [zst, zst2, zcut]
        rw [PXn hn j ha hpre]
        exact lpM (k := k) hj10 (fun _ => by omega) (by omega) (by omega) (fun h' x y => ⟨rfl, _, x, hso3, y⟩) j 0 _ _ (by omega) (by omega) rfl (by simpa using hR9) (hs.tr hT33)
end C10
