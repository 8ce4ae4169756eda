/-! the model's small methods -/
def zb (b : Bool) : Int32 := if b then 1 else 0
def bIn (v lo hi : Int32) : Bool := decide (lo ≤ v) && decide (v ≤ hi)
theorem bIn_t {v lo hi : Int32} (h1 : ¬ v < lo) (h2 : ¬ hi < v) : (1 : Int32) = zb (bIn v lo hi) := by
  simp [zb, bIn, Int32.not_lt.mp h1, Int32.not_lt.mp h2]
theorem bIn_f1 {v lo hi : Int32} (h1 : v < lo) : (0 : Int32) = zb (bIn v lo hi) := by
  have : ¬ lo ≤ v := fun q => by have := Int32.not_le.mpr h1; exact this q
  simp [zb, bIn, this]
theorem bIn_f2 {v lo hi : Int32} (h2 : hi < v) : (0 : Int32) = zb (bIn v lo hi) := by
  have : ¬ v ≤ hi := Int32.not_le.mpr h2
  simp [zb, bIn, this]
theorem zb0 {b : Bool} (h : zb b = 0) : b = false := by cases b <;> first | rfl | (exfalso; revert h; decide)
theorem zb1 {b : Bool} (h : ¬ zb b = 0) : b = true := by cases b <;> first | rfl | (exfalso; revert h; decide)
theorem zb01 (b : Bool) : zb b = 0 ∨ zb b = 1 := by cases b <;> simp [zb]
theorem zbT {p : Prop} [Decidable p] (h : p) : (1 : Int32) = zb (decide p) := by simp [zb, h]
theorem zbF {p : Prop} [Decidable p] (h : ¬ p) : (0 : Int32) = zb (decide p) := by simp [zb, h]
theorem zbn (b : Bool) : narrow .boolean (.int (zb b)) = .int (zb b) := by cases b <;> rfl
abbrev mi (U : MS) (i what : Int32) : Int32 := U.1 1 (10 * i + what).toNatClampNeg
section M1
variable {l : Launch} {G : GT} {d u : Nat} {h : Hp} {U : MS}

abbrev mX7_isIn : MT := (RX7, cX7_isIn, 3, (some .boolean), false)
theorem eX7_isIn_0 : decode mX7_isIn.2.1 0 = .ok (.iload_n 0, 1) := by decide +kernel
theorem eX7_isIn_1 : decode mX7_isIn.2.1 1 = .ok (.iload_n 1, 1) := by decide +kernel
theorem eX7_isIn_2 : decode mX7_isIn.2.1 2 = .ok (.if_icmp .lt 12, 3) := by decide +kernel
theorem eX7_isIn_5 : decode mX7_isIn.2.1 5 = .ok (.iload_n 0, 1) := by decide +kernel
theorem eX7_isIn_6 : decode mX7_isIn.2.1 6 = .ok (.iload_n 2, 1) := by decide +kernel
theorem eX7_isIn_7 : decode mX7_isIn.2.1 7 = .ok (.if_icmp .gt 7, 3) := by decide +kernel
theorem eX7_isIn_10 : decode mX7_isIn.2.1 10 = .ok (.iconst 1, 1) := by decide +kernel
theorem eX7_isIn_11 : decode mX7_isIn.2.1 11 = .ok (.goto 4, 3) := by decide +kernel
theorem eX7_isIn_14 : decode mX7_isIn.2.1 14 = .ok (.iconst 0, 1) := by decide +kernel
theorem eX7_isIn_15 : decode mX7_isIn.2.1 15 = .ok (.ireturn, 1) := by decide +kernel
theorem c_X7_isIn (v lo hi : Int32) (hd : 0 ≤ d) : Ct l G mX7_isIn yX7_isIn d 0 0 [.int v, .int lo, .int hi] h (fun r h' => r = some (.int (zb (bIn v lo hi))) ∧ h' = h) := by
  refine ct_of (lv := [some (.int v), some (.int lo), some (.int hi)]) (by decide +kernel) rfl (fun z => by cases z) (fun _ => rfl) (fun _ => Nat.le_of_ble_eq_true rfl) ?_
  refine aw_iload_n (pc' := 1) eX7_isIn_0 rfl rfl ?_
  refine aw_iload_n (pc' := 2) eX7_isIn_1 rfl rfl ?_
  refine aw_icmp_lt (pc' := 5) (tgt := 14) eX7_isIn_2 rfl (by decide) (fun c_2 => ?_) (fun c_2 => ?_)
  · refine aw_iconst (pc' := 15) (v := 0) eX7_isIn_14 rfl (by decide) ?_
    refine aw_ret (v := some (.int _)) eX7_isIn_15 ⟨rfl, rfl⟩ (by omega) (by omega) rfl ?_
    exact ⟨by first | rw [← bIn_t (by assumption) (by assumption)] | rw [← bIn_f1 (by assumption)] | rw [← bIn_f2 (by assumption)], rfl⟩
  · refine aw_iload_n (pc' := 6) eX7_isIn_5 rfl rfl ?_
    refine aw_iload_n (pc' := 7) eX7_isIn_6 rfl rfl ?_
    refine aw_icmp_gt (pc' := 10) (tgt := 14) eX7_isIn_7 rfl (by decide) (fun c_7 => ?_) (fun c_7 => ?_)
    · refine aw_iconst (pc' := 15) (v := 0) eX7_isIn_14 rfl (by decide) ?_
      refine aw_ret (v := some (.int _)) eX7_isIn_15 ⟨rfl, rfl⟩ (by omega) (by omega) rfl ?_
      exact ⟨by first | rw [← bIn_t (by assumption) (by assumption)] | rw [← bIn_f1 (by assumption)] | rw [← bIn_f2 (by assumption)], rfl⟩
    · refine aw_iconst (pc' := 11) (v := 1) eX7_isIn_10 rfl (by decide) ?_
      refine aw_goto eX7_isIn_11 (by decide) (tgt := 15) ?_
      refine aw_ret (v := some (.int _)) eX7_isIn_15 ⟨rfl, rfl⟩ (by omega) (by omega) rfl ?_
      exact ⟨by first | rw [← bIn_t (by assumption) (by assumption)] | rw [← bIn_f1 (by assumption)] | rw [← bIn_f2 (by assumption)], rfl⟩
abbrev mX7_isPlace : MT := (RX7, cX7_isPlace, 1, (some .boolean), false)
theorem eX7_isPlace_0 : decode mX7_isPlace.2.1 0 = .ok (.iload_n 0, 1) := by decide +kernel
theorem eX7_isPlace_1 : decode mX7_isPlace.2.1 1 = .ok (.iconst 0, 1) := by decide +kernel
theorem eX7_isPlace_2 : decode mX7_isPlace.2.1 2 = .ok (.bipush 11, 2) := by decide +kernel
theorem eX7_isPlace_4 : decode mX7_isPlace.2.1 4 = .ok (.invokestatic 80, 3) := by decide +kernel
theorem eX7_isPlace_7 : decode mX7_isPlace.2.1 7 = .ok (.ireturn, 1) := by decide +kernel
theorem c_X7_isPlace (p : Int32) (hd : 1 ≤ d) : Ct l G mX7_isPlace yX7_isPlace d 0 0 [.int p] h (fun r h' => r = some (.int (zb (bIn p 0 11))) ∧ h' = h) := by
  refine ct_of (lv := [some (.int p)]) (by decide +kernel) rfl (fun z => by cases z) (fun _ => rfl) (fun _ => Nat.le_of_ble_eq_true rfl) ?_
  refine aw_iload_n (pc' := 1) eX7_isPlace_0 rfl rfl ?_
  refine aw_iconst (pc' := 2) (v := 0) eX7_isPlace_1 rfl (by decide) ?_
  refine aw_bipush (pc' := 4) (v := 11) eX7_isPlace_2 rfl (by decide) ?_
  refine aw_calls (pc' := 7) (nn := 3) (c_X7_isIn (d := d - 1) _ _ _ (by omega)) eX7_isPlace_4 rfl ⟨q890, q892, q62⟩ q891 ⟨by decide +kernel, by decide +kernel, by decide +kernel⟩ rfl ⟨by omega, by decide⟩ ⟨by omega, by omega⟩ rfl (Nat.le_of_ble_eq_true rfl) (fun v1 h2 hq3 => ?_)
  obtain ⟨rfl, rfl⟩ := hq3
  dsimp only [Option.toList, List.cons_append, List.nil_append]
  refine aw_ret (v := some (.int _)) eX7_isPlace_7 ⟨rfl, zbn _⟩ (by omega) (by omega) rfl ?_
  exact ⟨rfl, rfl⟩
abbrev mX7_isTape : MT := (RX7, cX7_isTape, 1, (some .boolean), false)
theorem eX7_isTape_0 : decode mX7_isTape.2.1 0 = .ok (.iload_n 0, 1) := by decide +kernel
theorem eX7_isTape_1 : decode mX7_isTape.2.1 1 = .ok (.iconst 0, 1) := by decide +kernel
theorem eX7_isTape_2 : decode mX7_isTape.2.1 2 = .ok (.iconst 5, 1) := by decide +kernel
theorem eX7_isTape_3 : decode mX7_isTape.2.1 3 = .ok (.invokestatic 80, 3) := by decide +kernel
theorem eX7_isTape_6 : decode mX7_isTape.2.1 6 = .ok (.ireturn, 1) := by decide +kernel
theorem c_X7_isTape (p : Int32) (hd : 1 ≤ d) : Ct l G mX7_isTape yX7_isTape d 0 0 [.int p] h (fun r h' => r = some (.int (zb (bIn p 0 5))) ∧ h' = h) := by
  refine ct_of (lv := [some (.int p)]) (by decide +kernel) rfl (fun z => by cases z) (fun _ => rfl) (fun _ => Nat.le_of_ble_eq_true rfl) ?_
  refine aw_iload_n (pc' := 1) eX7_isTape_0 rfl rfl ?_
  refine aw_iconst (pc' := 2) (v := 0) eX7_isTape_1 rfl (by decide) ?_
  refine aw_iconst (pc' := 3) (v := 5) eX7_isTape_2 rfl (by decide) ?_
  refine aw_calls (pc' := 6) (nn := 3) (c_X7_isIn (d := d - 1) _ _ _ (by omega)) eX7_isTape_3 rfl ⟨q890, q892, q62⟩ q891 ⟨by decide +kernel, by decide +kernel, by decide +kernel⟩ rfl ⟨by omega, by decide⟩ ⟨by omega, by omega⟩ rfl (Nat.le_of_ble_eq_true rfl) (fun v1 h2 hq3 => ?_)
  obtain ⟨rfl, rfl⟩ := hq3
  dsimp only [Option.toList, List.cons_append, List.nil_append]
  refine aw_ret (v := some (.int _)) eX7_isTape_6 ⟨rfl, zbn _⟩ (by omega) (by omega) rfl ?_
  exact ⟨rfl, rfl⟩
abbrev mX7_one : MT := (RX7, cX7_one, 3, (some .int), false)
theorem eX7_one_0 : decode mX7_one.2.1 0 = .ok (.aload_n 0, 1) := by decide +kernel
theorem eX7_one_1 : decode mX7_one.2.1 1 = .ok (.getfield 15, 3) := by decide +kernel
theorem eX7_one_4 : decode mX7_one.2.1 4 = .ok (.bipush 10, 2) := by decide +kernel
theorem eX7_one_6 : decode mX7_one.2.1 6 = .ok (.iload_n 1, 1) := by decide +kernel
theorem eX7_one_7 : decode mX7_one.2.1 7 = .ok (.imul, 1) := by decide +kernel
theorem eX7_one_8 : decode mX7_one.2.1 8 = .ok (.iload_n 2, 1) := by decide +kernel
theorem eX7_one_9 : decode mX7_one.2.1 9 = .ok (.iadd, 1) := by decide +kernel
theorem eX7_one_10 : decode mX7_one.2.1 10 = .ok (.iaload, 1) := by decide +kernel
theorem eX7_one_11 : decode mX7_one.2.1 11 = .ok (.ireturn, 1) := by decide +kernel
theorem c_X7_one (hM : MAt h u U) (i what : Int32) (hi : vp_in (10 * i + what) 123) (hd : 0 ≤ d) : Ct l G mX7_one yX7_one d 0 0 [.ref u, .int i, .int what] h (fun r h' => r = some (.int (mi U i what)) ∧ h' = h) := by
  refine ct_of (lv := [some (.ref u), some (.int i), some (.int what)]) (by decide +kernel) rfl (fun z => by cases z) (fun _ => rfl) (fun _ => Nat.le_of_ble_eq_true rfl) ?_
  refine aw_aload_n (pc' := 1) eX7_one_0 rfl rfl trivial ?_
  refine aw_Mref (pc' := 4) (kf := 0) 1 hM eX7_one_1 rfl (by decide) rfl q789 ?_
  refine aw_bipush (pc' := 6) (v := 10) eX7_one_4 rfl (by decide) ?_
  refine aw_iload_n (pc' := 7) eX7_one_6 rfl rfl ?_
  refine aw_imul (pc' := 8) eX7_one_7 rfl ?_
  refine aw_iload_n (pc' := 9) eX7_one_8 rfl rfl ?_
  refine aw_iadd (pc' := 10) eX7_one_9 rfl ?_
  refine aw_MaldC (pc' := 11) 1 _ hM eX7_one_10 rfl (by decide) (by assumption) rfl ?_
  refine aw_ret (v := some (.int _)) eX7_one_11 ⟨rfl, rfl⟩ (by omega) (by omega) rfl ?_
  exact ⟨rfl, rfl⟩
abbrev mX7_change : MT := (RX7, cX7_change, 5, (some .int), false)
theorem eX7_change_0 : decode mX7_change.2.1 0 = .ok (.aload_n 0, 1) := by decide +kernel
theorem eX7_change_1 : decode mX7_change.2.1 1 = .ok (.iload_n 1, 1) := by decide +kernel
theorem eX7_change_2 : decode mX7_change.2.1 2 = .ok (.iload_n 2, 1) := by decide +kernel
theorem eX7_change_3 : decode mX7_change.2.1 3 = .ok (.invokevirtual 84, 3) := by decide +kernel
theorem eX7_change_6 : decode mX7_change.2.1 6 = .ok (.istore 4, 2) := by decide +kernel
theorem eX7_change_8 : decode mX7_change.2.1 8 = .ok (.aload_n 0, 1) := by decide +kernel
theorem eX7_change_9 : decode mX7_change.2.1 9 = .ok (.getfield 15, 3) := by decide +kernel
theorem eX7_change_12 : decode mX7_change.2.1 12 = .ok (.bipush 10, 2) := by decide +kernel
theorem eX7_change_14 : decode mX7_change.2.1 14 = .ok (.iload_n 1, 1) := by decide +kernel
theorem eX7_change_15 : decode mX7_change.2.1 15 = .ok (.imul, 1) := by decide +kernel
theorem eX7_change_16 : decode mX7_change.2.1 16 = .ok (.iload_n 2, 1) := by decide +kernel
theorem eX7_change_17 : decode mX7_change.2.1 17 = .ok (.iadd, 1) := by decide +kernel
theorem eX7_change_18 : decode mX7_change.2.1 18 = .ok (.iload_n 3, 1) := by decide +kernel
theorem eX7_change_19 : decode mX7_change.2.1 19 = .ok (.iastore, 1) := by decide +kernel
theorem eX7_change_20 : decode mX7_change.2.1 20 = .ok (.iload 4, 2) := by decide +kernel
theorem eX7_change_22 : decode mX7_change.2.1 22 = .ok (.ireturn, 1) := by decide +kernel
theorem c_X7_change (hM : MAt h u U) (i what n : Int32) (hi : vp_in (10 * i + what) 123) (hd : 1 ≤ d) : Ct l G mX7_change yX7_change d 0 0 [.ref u, .int i, .int what, .int n] h (fun r h' => r = some (.int (mi U i what)) ∧ MAt h' u (mup U 1 (10 * i + what).toNatClampNeg n) ∧ Same u 19 h h') := by
  refine ct_of (lv := [some (.ref u), some (.int i), some (.int what), some (.int n), none]) (by decide +kernel) rfl (fun z => by cases z) (fun _ => rfl) (fun _ => Nat.le_of_ble_eq_true rfl) ?_
  refine aw_aload_n (pc' := 1) eX7_change_0 rfl rfl trivial ?_
  refine aw_iload_n (pc' := 2) eX7_change_1 rfl rfl ?_
  refine aw_iload_n (pc' := 3) eX7_change_2 rfl rfl ?_
  refine aw_callv (pc' := 6) (nn := 2) (c_X7_one (d := d - 1) hM _ _ (by assumption) (by omega)) eX7_change_3 rfl ⟨q901, q904, q62⟩ q903 q22 ⟨rfl, by decide +kernel, by decide +kernel, by decide +kernel⟩ rfl (by rw [hM.2.1]; exact ⟨rfl, rfl⟩) rfl ⟨by omega, by decide⟩ ⟨by omega, by omega⟩ rfl (Nat.le_of_ble_eq_true rfl) (fun v1 h2 hq3 => ?_)
  obtain ⟨rfl, rfl⟩ := hq3
  dsimp only [Option.toList, List.cons_append, List.nil_append]
  refine aw_istore (pc' := 8) eX7_change_6 rfl (by decide) ?_
  dsimp only [zst, zst2, zcut]
  refine aw_aload_n (pc' := 9) eX7_change_8 rfl rfl trivial ?_
  refine aw_Mref (pc' := 12) (kf := 0) 1 hM eX7_change_9 rfl (by decide) rfl q789 ?_
  refine aw_bipush (pc' := 14) (v := 10) eX7_change_12 rfl (by decide) ?_
  refine aw_iload_n (pc' := 15) eX7_change_14 rfl rfl ?_
  refine aw_imul (pc' := 16) eX7_change_15 rfl ?_
  refine aw_iload_n (pc' := 17) eX7_change_16 rfl rfl ?_
  refine aw_iadd (pc' := 18) eX7_change_17 rfl ?_
  refine aw_iload_n (pc' := 19) eX7_change_18 rfl rfl ?_
  refine aw_MastC (pc' := 20) 1 _ hM eX7_change_19 rfl (by decide) (by assumption) rfl (fun h6 hM4 hs5 => ?_)
  refine aw_iload (pc' := 22) eX7_change_20 rfl rfl ?_
  refine aw_ret (v := some (.int _)) eX7_change_22 ⟨rfl, rfl⟩ (by omega) (by omega) rfl ?_
  exact ⟨rfl, hM4, by assumption⟩
abbrev mX7_isAs : MT := (RX7, cX7_isAs, 3, (some .boolean), false)
theorem eX7_isAs_0 : decode mX7_isAs.2.1 0 = .ok (.aload_n 0, 1) := by decide +kernel
theorem eX7_isAs_1 : decode mX7_isAs.2.1 1 = .ok (.iload_n 1, 1) := by decide +kernel
theorem eX7_isAs_2 : decode mX7_isAs.2.1 2 = .ok (.iconst 3, 1) := by decide +kernel
theorem eX7_isAs_3 : decode mX7_isAs.2.1 3 = .ok (.invokevirtual 84, 3) := by decide +kernel
theorem eX7_isAs_6 : decode mX7_isAs.2.1 6 = .ok (.iload_n 2, 1) := by decide +kernel
theorem eX7_isAs_7 : decode mX7_isAs.2.1 7 = .ok (.if_icmp .ne 7, 3) := by decide +kernel
theorem eX7_isAs_10 : decode mX7_isAs.2.1 10 = .ok (.iconst 1, 1) := by decide +kernel
theorem eX7_isAs_11 : decode mX7_isAs.2.1 11 = .ok (.goto 4, 3) := by decide +kernel
theorem eX7_isAs_14 : decode mX7_isAs.2.1 14 = .ok (.iconst 0, 1) := by decide +kernel
theorem eX7_isAs_15 : decode mX7_isAs.2.1 15 = .ok (.ireturn, 1) := by decide +kernel
theorem c_X7_isAs (hM : MAt h u U) (i st : Int32) (hi : vp_in (10 * i + 3) 123) (hd : 1 ≤ d) : Ct l G mX7_isAs yX7_isAs d 0 0 [.ref u, .int i, .int st] h (fun r h' => r = some (.int (zb (decide (mi U i 3 = st)))) ∧ h' = h) := by
  refine ct_of (lv := [some (.ref u), some (.int i), some (.int st)]) (by decide +kernel) rfl (fun z => by cases z) (fun _ => rfl) (fun _ => Nat.le_of_ble_eq_true rfl) ?_
  refine aw_aload_n (pc' := 1) eX7_isAs_0 rfl rfl trivial ?_
  refine aw_iload_n (pc' := 2) eX7_isAs_1 rfl rfl ?_
  refine aw_iconst (pc' := 3) (v := 3) eX7_isAs_2 rfl (by decide) ?_
  refine aw_callv (pc' := 6) (nn := 2) (c_X7_one (d := d - 1) hM _ _ (by assumption) (by omega)) eX7_isAs_3 rfl ⟨q901, q904, q62⟩ q903 q22 ⟨rfl, by decide +kernel, by decide +kernel, by decide +kernel⟩ rfl (by rw [hM.2.1]; exact ⟨rfl, rfl⟩) rfl ⟨by omega, by decide⟩ ⟨by omega, by omega⟩ rfl (Nat.le_of_ble_eq_true rfl) (fun v1 h2 hq3 => ?_)
  obtain ⟨rfl, rfl⟩ := hq3
  dsimp only [Option.toList, List.cons_append, List.nil_append]
  refine aw_iload_n (pc' := 7) eX7_isAs_6 rfl rfl ?_
  refine aw_icmp_ne (pc' := 10) (tgt := 14) eX7_isAs_7 rfl (by decide) (fun c_7 => ?_) (fun c_7 => ?_)
  · refine aw_iconst (pc' := 15) (v := 0) eX7_isAs_14 rfl (by decide) ?_
    refine aw_ret (v := some (.int _)) eX7_isAs_15 ⟨rfl, rfl⟩ (by omega) (by omega) rfl ?_
    exact ⟨by first | rw [← zbT (by assumption)] | rw [← zbF (by assumption)], rfl⟩
  · refine aw_iconst (pc' := 11) (v := 1) eX7_isAs_10 rfl (by decide) ?_
    refine aw_goto eX7_isAs_11 (by decide) (tgt := 15) ?_
    refine aw_ret (v := some (.int _)) eX7_isAs_15 ⟨rfl, rfl⟩ (by omega) (by omega) rfl ?_
    exact ⟨by first | rw [← zbT (by assumption)] | rw [← zbF (by assumption)], rfl⟩
abbrev mX7_isOne : MT := (RX7, cX7_isOne, 2, (some .boolean), false)
theorem eX7_isOne_0 : decode mX7_isOne.2.1 0 = .ok (.iload_n 1, 1) := by decide +kernel
theorem eX7_isOne_1 : decode mX7_isOne.2.1 1 = .ok (.iconst 0, 1) := by decide +kernel
theorem eX7_isOne_2 : decode mX7_isOne.2.1 2 = .ok (.aload_n 0, 1) := by decide +kernel
theorem eX7_isOne_3 : decode mX7_isOne.2.1 3 = .ok (.getfield 15, 3) := by decide +kernel
theorem eX7_isOne_6 : decode mX7_isOne.2.1 6 = .ok (.bipush 60, 2) := by decide +kernel
theorem eX7_isOne_8 : decode mX7_isOne.2.1 8 = .ok (.iaload, 1) := by decide +kernel
theorem eX7_isOne_9 : decode mX7_isOne.2.1 9 = .ok (.iconst 1, 1) := by decide +kernel
theorem eX7_isOne_10 : decode mX7_isOne.2.1 10 = .ok (.isub, 1) := by decide +kernel
theorem eX7_isOne_11 : decode mX7_isOne.2.1 11 = .ok (.invokestatic 80, 3) := by decide +kernel
theorem eX7_isOne_14 : decode mX7_isOne.2.1 14 = .ok (.ireturn, 1) := by decide +kernel
theorem c_X7_isOne (hM : MAt h u U) (i : Int32) (hd : 1 ≤ d) : Ct l G mX7_isOne yX7_isOne d 0 0 [.ref u, .int i] h (fun r h' => r = some (.int (zb (bIn i 0 (U.1 1 60 - 1)))) ∧ h' = h) := by
  refine ct_of (lv := [some (.ref u), some (.int i)]) (by decide +kernel) rfl (fun z => by cases z) (fun _ => rfl) (fun _ => Nat.le_of_ble_eq_true rfl) ?_
  refine aw_iload_n (pc' := 1) eX7_isOne_0 rfl rfl ?_
  refine aw_iconst (pc' := 2) (v := 0) eX7_isOne_1 rfl (by decide) ?_
  refine aw_aload_n (pc' := 3) eX7_isOne_2 rfl rfl trivial ?_
  refine aw_Mref (pc' := 6) (kf := 0) 1 hM eX7_isOne_3 rfl (by decide) rfl q789 ?_
  refine aw_bipush (pc' := 8) (v := 60) eX7_isOne_6 rfl (by decide) ?_
  refine aw_MaldC (pc' := 9) 1 60 hM eX7_isOne_8 rfl (by decide) (by unfold vp_in; decide) (by decide) ?_
  refine aw_iconst (pc' := 10) (v := 1) eX7_isOne_9 rfl (by decide) ?_
  refine aw_isub (pc' := 11) eX7_isOne_10 rfl ?_
  refine aw_calls (pc' := 14) (nn := 3) (c_X7_isIn (d := d - 1) _ _ _ (by omega)) eX7_isOne_11 rfl ⟨q890, q892, q62⟩ q891 ⟨by decide +kernel, by decide +kernel, by decide +kernel⟩ rfl ⟨by omega, by decide⟩ ⟨by omega, by omega⟩ rfl (Nat.le_of_ble_eq_true rfl) (fun v1 h2 hq3 => ?_)
  obtain ⟨rfl, rfl⟩ := hq3
  dsimp only [Option.toList, List.cons_append, List.nil_append]
  refine aw_ret (v := some (.int _)) eX7_isOne_14 ⟨rfl, zbn _⟩ (by omega) (by omega) rfl ?_
  exact ⟨rfl, rfl⟩
end M1
