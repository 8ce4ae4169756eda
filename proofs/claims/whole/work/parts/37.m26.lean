/-! the model: acts -/
section M26
variable {l : Launch} {G : GT} {u : Nat} {U U1 : MS} {d n m t : Nat} {g : Nat → Int32} {h : Hp} {Q : Option Value → Hp → Prop}
/-- which bodies ran, and how many -/
abbrev TS : Type := (Nat → Int32) × Nat
def mtr (U : MS) (s : TS) : MS := msc (mset U 14 s.1) 23 (nI s.2)
def tPush (b : Int32) (s : TS) : TS := (if s.2 < 20 then upd s.1 s.2 b else s.1, s.2 + 1)
def aRun (K : Nat) (v i : Int32) : Nat → Nat → Nat → Int32 → TS → Int32 × TS
  | 0, _, _, _, s => (0, s)
  | f + 1, k, a, x, s =>
    if tabB (3 * k + a) = 10 then (x + i, tPush (tabB (3 * k + a)) s)
    else if tabB (3 * k + a) = 11 then ((aRun K v i f K 0 x (tPush (tabB (3 * k + a)) s)).1 - v, (aRun K v i f K 0 x (tPush (tabB (3 * k + a)) s)).2)
    else if tabB (3 * k + a) = 12 then ((aRun K v i f K 1 x (tPush (tabB (3 * k + a)) s)).1 * 2, (aRun K v i f K 1 x (tPush (tabB (3 * k + a)) s)).2)
    else if tabB (3 * k + a) = 20 then ((aRun K v i f 0 1 x (tPush (tabB (3 * k + a)) s)).1 ^^^ 6, (aRun K v i f 0 1 x (tPush (tabB (3 * k + a)) s)).2)
    else if tabB (3 * k + a) = 30 then ((aRun K v i f 0 0 (x * 3) (tPush (tabB (3 * k + a)) s)).1, (aRun K v i f 0 0 (x * 3) (tPush (tabB (3 * k + a)) s)).2)
    else if tabB (3 * k + a) = 40 then ((aRun K v i f 0 2 x (tPush (tabB (3 * k + a)) s)).1 + (aRun K v i f K 1 1 (aRun K v i f 0 2 x (tPush (tabB (3 * k + a)) s)).2).1, (aRun K v i f K 1 1 (aRun K v i f 0 2 x (tPush (tabB (3 * k + a)) s)).2).2)
    else if tabB (3 * k + a) = 50 then (-(aRun K v i f 1 0 x (tPush (tabB (3 * k + a)) s)).1, (aRun K v i f 1 0 x (tPush (tabB (3 * k + a)) s)).2)
    else if tabB (3 * k + a) = 51 then ((aRun K v i f 1 1 (x + 1) (tPush (tabB (3 * k + a)) s)).1, (aRun K v i f 1 1 (x + 1) (tPush (tabB (3 * k + a)) s)).2)
    else if tabB (3 * k + a) = 60 then ((aRun K v i f 2 2 (x - i) (tPush (tabB (3 * k + a)) s)).1, (aRun K v i f 2 2 (x - i) (tPush (tabB (3 * k + a)) s)).2)
    else if tabB (3 * k + a) = 70 then ((aRun K v i f 3 1 x (tPush (tabB (3 * k + a)) s)).1 + (aRun K v i f 3 0 2 (aRun K v i f 3 1 x (tPush (tabB (3 * k + a)) s)).2).1, (aRun K v i f 3 0 2 (aRun K v i f 3 1 x (tPush (tabB (3 * k + a)) s)).2).2)
    else ((aRun K v i f 3 0 x (tPush (tabB (3 * k + a)) s)).1 ^^^ v, (aRun K v i f 3 0 x (tPush (tabB (3 * k + a)) s)).2)
def pw : Nat → Nat
  | 0 => 1
  | f + 1 => 2 * pw f
theorem pw_pos : ∀ f, 1 ≤ pw f
  | 0 => Nat.le_refl _
  | f + 1 => by rw [pw]; have := pw_pos f; omega
theorem pw_21 : pw 21 = 2097152 := by decide
theorem aRun_le {K : Nat} {v i : Int32} : ∀ (f k a : Nat) (x : Int32) (s : TS), (aRun K v i f k a x s).2.2 + 1 ≤ s.2 + pw f
  | 0, k, a, x, s => Nat.le_refl _
  | f + 1, k, a, x, s => by
    have hp := pw_pos f
    have ih := fun k a x s => aRun_le (K := K) (v := v) (i := i) f k a x s
    have hP : ∀ b, (tPush b s).2 = s.2 + 1 := fun _ => rfl
    have h1 : ∀ k a x b, (aRun K v i f k a x (tPush b s)).2.2 + 1 ≤ s.2 + 1 + pw f := fun k a x b => by
      have z := ih k a x (tPush b s)
      rw [hP] at z
      exact z
    have h2 : ∀ k a x b k' a' x', (aRun K v i f k' a' x' (aRun K v i f k a x (tPush b s)).2).2.2 + 1 ≤ s.2 + 2 * pw f := fun k a x b k' a' x' => by
      have z := ih k' a' x' (aRun K v i f k a x (tPush b s)).2
      have y := h1 k a x b
      omega
    have h3 : ∀ k a x b, (aRun K v i f k a x (tPush b s)).2.2 + 1 ≤ s.2 + 2 * pw f := fun k a x b => by
      have y := h1 k a x b
      omega
    rw [aRun, pw]
    repeat' split
    all_goals first | exact h3 _ _ _ _ | exact h2 _ _ _ _ _ _ _ | (rw [hP]; omega)
/-- the model's tables -/
def mB (q : Nat) : Int32 := [10, 11, 12, 0, 20, 0, 30, 0, 0, 0, 0, 40, 50, 51, 0, 0, 0, 60, 71, 70, 0].getD q 0
def mBo (U : MS) : Prop := ∀ q, q < 21 → U.1 13 q = mB q
def ow (k a : Nat) : Nat := [0, 0, 0, 0, 1, 0, 2, 0, 0, 0, 0, 3, 4, 4, 0, 2, 0, 5, 6, 6, 3].getD (3 * k + a) 0
def owB (k a : Nat) : Bool := (if mB (3 * k + a) = 0 then decide (mAp k < k) && decide (mAb k = nI (mAp k)) && decide (ow k a = ow (mAp k) a) else decide (ow k a = k)) && decide (mB (3 * ow k a + a) = tabB (3 * k + a)) && decide (ow k a < 7)
theorem ow_b : ((List.range 7).all fun k => (List.range 3).all fun a => owB k a) = true := by decide +kernel
theorem ow_all (k : Nat) (hk : k < 7) (a : Nat) (ha : a < 3) : (mB (3 * k + a) = 0 → mAp k < k ∧ mAb k = nI (mAp k) ∧ ow k a = ow (mAp k) a) ∧ (¬ mB (3 * k + a) = 0 → ow k a = k) ∧ mB (3 * ow k a + a) = tabB (3 * k + a) ∧ ow k a < 7 := by
  have z := List.all_eq_true.mp (List.all_eq_true.mp ow_b k (List.mem_range.mpr hk)) a (List.mem_range.mpr ha)
  unfold owB at z
  simp only [Bool.and_eq_true, decide_eq_true_eq] at z
  refine ⟨fun e => ?_, fun e => ?_, z.1.2, z.2⟩
  · have y := z.1.1
    rw [if_pos e] at y
    simp only [Bool.and_eq_true, decide_eq_true_eq] at y
    exact ⟨y.1.1, y.1.2, y.2⟩
  · have y := z.1.1
    rw [if_neg e] at y
    simpa using y
def btR (b : Int32) : Nat × Nat × Nat := if b = 10 then (0, 0, 9) else if b = 11 then (1, 0, 9) else if b = 12 then (2, 0, 9) else if b = 20 then (1, 1, 0) else if b = 30 then (0, 1, 0) else if b = 40 then (2, 1, 0) else if b = 50 then (0, 2, 1) else if b = 51 then (1, 2, 1) else if b = 60 then (2, 3, 2) else if b = 70 then (1, 4, 3) else (0, 4, 3)
def btB (k a : Nat) : Bool := decide (a = (btR (tabB (3 * k + a))).1) && decide ((btR (tabB (3 * k + a))).2.1 ≤ k) && (decide ((btR (tabB (3 * k + a))).2.2 = 9) || decide (mAb (ow k a) = nI (btR (tabB (3 * k + a))).2.2))
theorem bt_b : ((List.range 7).all fun k => (List.range 3).all fun a => btB k a) = true := by decide +kernel
theorem bt_all (k : Nat) (hk : k < 7) (a : Nat) (ha : a < 3) {r : Nat × Nat × Nat} (hr : btR (tabB (3 * k + a)) = r) : a = r.1 ∧ r.2.1 ≤ k ∧ (r.2.2 ≠ 9 → mAb (ow k a) = nI r.2.2) := by
  have z := List.all_eq_true.mp (List.all_eq_true.mp bt_b k (List.mem_range.mpr hk)) a (List.mem_range.mpr ha)
  unfold btB at z
  rw [hr] at z
  simp only [Bool.and_eq_true, Bool.or_eq_true, decide_eq_true_eq] at z
  exact ⟨z.1.1, z.1.2, fun e => z.2.resolve_left e⟩

abbrev mX7_body : MT := (RX7, cX7_body, 2, (some .int), false)
theorem eX7_body_0 : decode mX7_body.2.1 0 = .ok (.aload_n 0, 1) := by decide +kernel
theorem eX7_body_1 : decode mX7_body.2.1 1 = .ok (.getfield 236, 3) := by decide +kernel
theorem eX7_body_4 : decode mX7_body.2.1 4 = .ok (.bipush 20, 2) := by decide +kernel
theorem eX7_body_6 : decode mX7_body.2.1 6 = .ok (.if_icmp .ge 13, 3) := by decide +kernel
theorem eX7_body_9 : decode mX7_body.2.1 9 = .ok (.aload_n 0, 1) := by decide +kernel
theorem eX7_body_10 : decode mX7_body.2.1 10 = .ok (.getfield 56, 3) := by decide +kernel
theorem eX7_body_13 : decode mX7_body.2.1 13 = .ok (.aload_n 0, 1) := by decide +kernel
theorem eX7_body_14 : decode mX7_body.2.1 14 = .ok (.getfield 236, 3) := by decide +kernel
theorem eX7_body_17 : decode mX7_body.2.1 17 = .ok (.iload_n 1, 1) := by decide +kernel
theorem eX7_body_18 : decode mX7_body.2.1 18 = .ok (.iastore, 1) := by decide +kernel
theorem eX7_body_19 : decode mX7_body.2.1 19 = .ok (.aload_n 0, 1) := by decide +kernel
theorem eX7_body_20 : decode mX7_body.2.1 20 = .ok (.dup, 1) := by decide +kernel
theorem eX7_body_21 : decode mX7_body.2.1 21 = .ok (.getfield 236, 3) := by decide +kernel
theorem eX7_body_24 : decode mX7_body.2.1 24 = .ok (.iconst 1, 1) := by decide +kernel
theorem eX7_body_25 : decode mX7_body.2.1 25 = .ok (.iadd, 1) := by decide +kernel
theorem eX7_body_26 : decode mX7_body.2.1 26 = .ok (.putfield 236, 3) := by decide +kernel
theorem eX7_body_29 : decode mX7_body.2.1 29 = .ok (.iload_n 1, 1) := by decide +kernel
theorem eX7_body_30 : decode mX7_body.2.1 30 = .ok (.ireturn, 1) := by decide +kernel
theorem c_X7_body {s : TS} (hM : MAt h u (mtr U s)) (hs : s.2 < 2000000000) (b : Int32) (hd : 0 ≤ d) : Ct l G mX7_body yX7_body d 0 0 [.ref u, .int b] h (fun r h' => r = some (.int b) ∧ MAt h' u (mtr U (tPush b s)) ∧ Same u 19 h h') := by
  refine ct_of (lv := [some (.ref u), some (.int b)]) (by decide +kernel) rfl (fun z => by cases z) (fun _ => rfl) (fun _ => Nat.le_of_ble_eq_true rfl) ?_
  refine aw_aload_n (pc' := 1) eX7_body_0 rfl rfl trivial ?_
  refine aw_Mint (pc' := 4) (kf := 23) hM eX7_body_1 rfl (by decide) q812 ?_
  refine aw_bipush (pc' := 6) (v := 20) eX7_body_4 rfl (by decide) ?_
  refine aw_icmp_ge (pc' := 9) (tgt := 19) eX7_body_6 rfl (by decide) (fun c_6 => ?_) (fun c_6 => ?_)
  · refine aw_aload_n (pc' := 20) eX7_body_19 rfl rfl trivial ?_
    refine aw_dup (pc' := 21) eX7_body_20 rfl rfl ?_
    refine aw_Mint (pc' := 24) (kf := 23) hM eX7_body_21 rfl (by decide) q812 ?_
    refine aw_iconst (pc' := 25) (v := 1) eX7_body_24 rfl (by decide) ?_
    refine aw_iadd (pc' := 26) eX7_body_25 rfl ?_
    refine aw_Mput (pc' := 29) 23 hM eX7_body_26 rfl (by decide) (fun z => absurd z (by decide)) q812 (fun h3 hM1 hs2 => ?_)
    refine aw_iload_n (pc' := 30) eX7_body_29 rfl rfl ?_
    refine aw_ret (v := some (.int _)) eX7_body_30 ⟨rfl, rfl⟩ (by omega) (by omega) rfl ?_
    have hM9 := hM1
    have h20 : ¬ s.2 < 20 := fun z => absurd (ge_nI (b := 20) (by omega) (by omega) c_6) (by omega)
    refine ⟨rfl, ?_, hs2⟩
    have e : mtr U (tPush b s) = msc (mtr U s) 23 (nI s.2 + 1) := by
      unfold mtr tPush
      rw [if_neg h20, nI_1]
      unfold msc mset
      congr 2
      funext j; by_cases z : j = 23 <;> simp [z]
    rw [e]
    exact hM9
  · refine aw_aload_n (pc' := 10) eX7_body_9 rfl rfl trivial ?_
    refine aw_Mref (pc' := 13) (kf := 22) 14 hM eX7_body_10 rfl (by decide) rfl q811 ?_
    refine aw_aload_n (pc' := 14) eX7_body_13 rfl rfl trivial ?_
    refine aw_Mint (pc' := 17) (kf := 23) hM eX7_body_14 rfl (by decide) q812 ?_
    refine aw_iload_n (pc' := 18) eX7_body_17 rfl rfl ?_
    refine aw_MastC (pc' := 19) 14 s.2 hM eX7_body_18 rfl (by decide) (vpE (N := 20) (show _ = nI s.2 from rfl) (nge_nI (b := 20) (by omega) (by omega) c_6) (by omega)) (clE (show _ = nI s.2 from rfl) (by omega)) (fun h6 hM4 hs5 => ?_)
    refine aw_aload_n (pc' := 20) eX7_body_19 rfl rfl trivial ?_
    refine aw_dup (pc' := 21) eX7_body_20 rfl rfl ?_
    refine aw_Mint (pc' := 24) (kf := 23) hM4 eX7_body_21 rfl (by decide) q812 ?_
    refine aw_iconst (pc' := 25) (v := 1) eX7_body_24 rfl (by decide) ?_
    refine aw_iadd (pc' := 26) eX7_body_25 rfl ?_
    refine aw_Mput (pc' := 29) 23 hM4 eX7_body_26 rfl (by decide) (fun z => absurd z (by decide)) q812 (fun h9 hM7 hs8 => ?_)
    have hT10 := hs5.tr hs8
    refine aw_iload_n (pc' := 30) eX7_body_29 rfl rfl ?_
    refine aw_ret (v := some (.int _)) eX7_body_30 ⟨rfl, rfl⟩ (by omega) (by omega) rfl ?_
    have hM9 := hM7
    have h20 : s.2 < 20 := nge_nI (b := 20) (by omega) (by omega) c_6
    refine ⟨rfl, ?_, hT10⟩
    have e : mtr U (tPush b s) = msc (mset (mtr U s) 14 (upd s.1 s.2 b)) 23 (nI s.2 + 1) := by
      unfold mtr tPush
      rw [if_pos h20, nI_1]
      unfold msc mset
      congr 1
      · funext j; by_cases z : j = 14 <;> simp [z]
      · congr 1
        funext j; by_cases z : j = 23 <;> simp [z]
    rw [e]
    exact hM9
end M26
