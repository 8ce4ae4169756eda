/-! the model's parser: where it is (a), whether it is well (w) -/
section M7
variable {l : Launch} {G : GT} {d u : Nat} {h : Hp} {U : MS} {Q : Option Value → Hp → Prop}
abbrev PP : Type := Nat × Bool
def mp (U : MS) (p : PP) : MS := (U.1, fun j => if j = 11 then nI p.1 else if j = 12 then zb p.2 else U.2.1 j, U.2.2)
theorem mp11 (U : MS) (p : PP) : (mp U p).2.1 11 = nI p.1 := rfl
theorem mp12 (U : MS) (p : PP) : (mp U p).2.1 12 = zb p.2 := rfl
theorem mp_ne {U : MS} {p : PP} {j : Nat} (h1 : j ≠ 11) (h2 : j ≠ 12) : (mp U p).2.1 j = U.2.1 j := by simp [mp, h1, h2]
theorem mp_at (U : MS) (p : PP) (a : Nat) {x : Int32} (hx : x = nI a) : msc (mp U p) 11 x = mp U (a, p.2) := by
  subst hx
  unfold msc mp
  congr 2
  funext j
  by_cases h1 : j = 11
  · simp [h1]
  · simp [h1]
theorem mp_well (U : MS) (p : PP) (w : Bool) {x : Int32} (hx : x = zb w) : msc (mp U p) 12 x = mp U (p.1, w) := by
  subst hx
  unfold msc mp
  congr 2
  funext j
  by_cases h1 : j = 12
  · simp [h1]
  · by_cases h2 : j = 11 <;> simp [h1, h2]
theorem mp_id {U : MS} {p : PP} (h1 : U.2.1 11 = nI p.1) (h2 : U.2.1 12 = zb p.2) : mp U p = U := by
  unfold mp
  obtain ⟨x, y, z⟩ := U
  congr 2
  funext j
  by_cases e1 : j = 11
  · subst e1; simp; exact h1.symm
  · by_cases e2 : j = 12
    · subst e2; simp; exact h2.symm
    · simp [e1, e2]
theorem mp_mp (U : MS) (p p' : PP) : mp (mp U p) p' = mp U p' := by
  unfold mp
  congr 2
  funext j
  by_cases e1 : j = 11
  · simp [e1]
  · by_cases e2 : j = 12 <;> simp [e1, e2]
/-- the parser on a text R of n bytes -/
def pAt (R : Nat → Int32) (n : Nat) (p : PP) (c : Int32) : Bool := p.2 && decide (p.1 < n) && decide (R p.1 = c)
def pTk (R : Nat → Int32) (n : Nat) (p : PP) (c : Int32) : PP := if pAt R n p c = true then (p.1 + 1, p.2) else (p.1, false)
def pDg (R : Nat → Int32) (n : Nat) (p : PP) : Bool := p.2 && decide (p.1 < n) && decide (48 ≤ R p.1) && decide (R p.1 ≤ 57)
def pNum (R : Nat → Int32) (n : Nat) (p : PP) : Int32 × PP :=
  if pDg R n p = true then if pDg R n (p.1 + 1, p.2) = true then (10 * (R p.1 - 48) + R (p.1 + 1) - 48, (p.1 + 2, p.2)) else (R p.1 - 48, (p.1 + 1, p.2)) else (0, (p.1, false))
theorem pAt_lt {R : Nat → Int32} {n : Nat} {p : PP} {c : Int32} (h : pAt R n p c = true) : p.1 < n := by
  simp [pAt] at h
  exact h.1.2
theorem pTk_le {R : Nat → Int32} {n : Nat} {p : PP} {c : Int32} (h : p.1 ≤ n) : (pTk R n p c).1 ≤ n := by
  unfold pTk
  split
  · rename_i z; have := pAt_lt z; show p.1 + 1 ≤ n; omega
  · exact h
theorem pDg_lt {R : Nat → Int32} {n : Nat} {p : PP} (h : pDg R n p = true) : p.1 < n := by
  simp [pDg] at h
  exact h.1.1.2
theorem pNum_le {R : Nat → Int32} {n : Nat} {p : PP} (h : p.1 ≤ n) : (pNum R n p).2.1 ≤ n := by
  unfold pNum
  split
  · rename_i z; have := pDg_lt z
    split
    · rename_i z2; have := pDg_lt z2; show p.1 + 2 ≤ n; omega
    · show p.1 + 1 ≤ n; omega
  · exact h
/-- the text that is read -/
def pOk (U : MS) (n : Nat) : Prop := U.2.1 10 = nI n ∧ n ≤ 100

abbrev mX7_isAt : MT := (RX7, cX7_isAt, 2, (some .boolean), false)
theorem eX7_isAt_0 : decode mX7_isAt.2.1 0 = .ok (.aload_n 0, 1) := by decide +kernel
theorem eX7_isAt_1 : decode mX7_isAt.2.1 1 = .ok (.getfield 127, 3) := by decide +kernel
theorem eX7_isAt_4 : decode mX7_isAt.2.1 4 = .ok (.ifCond .eq 31, 3) := by decide +kernel
theorem eX7_isAt_7 : decode mX7_isAt.2.1 7 = .ok (.aload_n 0, 1) := by decide +kernel
theorem eX7_isAt_8 : decode mX7_isAt.2.1 8 = .ok (.getfield 130, 3) := by decide +kernel
theorem eX7_isAt_11 : decode mX7_isAt.2.1 11 = .ok (.aload_n 0, 1) := by decide +kernel
theorem eX7_isAt_12 : decode mX7_isAt.2.1 12 = .ok (.getfield 133, 3) := by decide +kernel
theorem eX7_isAt_15 : decode mX7_isAt.2.1 15 = .ok (.if_icmp .ge 20, 3) := by decide +kernel
theorem eX7_isAt_18 : decode mX7_isAt.2.1 18 = .ok (.aload_n 0, 1) := by decide +kernel
theorem eX7_isAt_19 : decode mX7_isAt.2.1 19 = .ok (.getfield 34, 3) := by decide +kernel
theorem eX7_isAt_22 : decode mX7_isAt.2.1 22 = .ok (.aload_n 0, 1) := by decide +kernel
theorem eX7_isAt_23 : decode mX7_isAt.2.1 23 = .ok (.getfield 130, 3) := by decide +kernel
theorem eX7_isAt_26 : decode mX7_isAt.2.1 26 = .ok (.iaload, 1) := by decide +kernel
theorem eX7_isAt_27 : decode mX7_isAt.2.1 27 = .ok (.iload_n 1, 1) := by decide +kernel
theorem eX7_isAt_28 : decode mX7_isAt.2.1 28 = .ok (.if_icmp .ne 7, 3) := by decide +kernel
theorem eX7_isAt_31 : decode mX7_isAt.2.1 31 = .ok (.iconst 1, 1) := by decide +kernel
theorem eX7_isAt_32 : decode mX7_isAt.2.1 32 = .ok (.goto 4, 3) := by decide +kernel
theorem eX7_isAt_35 : decode mX7_isAt.2.1 35 = .ok (.iconst 0, 1) := by decide +kernel
theorem eX7_isAt_36 : decode mX7_isAt.2.1 36 = .ok (.ireturn, 1) := by decide +kernel
theorem c_X7_isAt {n : Nat} {p : PP} (hM : MAt h u (mp U p)) (hn : pOk U n) (ha : p.1 ≤ n) (c : Int32) (hd : 0 ≤ d) : Ct l G mX7_isAt yX7_isAt d 0 0 [.ref u, .int c] h (fun r h' => r = some (.int (zb (pAt (U.1 7) n p c))) ∧ h' = h) := by
  refine ct_of (lv := [some (.ref u), some (.int c)]) (by decide +kernel) rfl (fun z => by cases z) (fun _ => rfl) (fun _ => Nat.le_of_ble_eq_true rfl) ?_
  refine aw_aload_n (pc' := 1) eX7_isAt_0 rfl rfl trivial ?_
  refine aw_Mint (pc' := 4) (kf := 12) hM eX7_isAt_1 rfl (by decide) q801 ?_
  refine aw_if_eq (pc' := 7) (tgt := 35) eX7_isAt_4 rfl (by decide) (fun c_4 => ?_) (fun c_4 => ?_)
  · refine aw_iconst (pc' := 36) (v := 0) eX7_isAt_35 rfl (by decide) ?_
    refine aw_ret (v := some (.int _)) eX7_isAt_36 ⟨rfl, rfl⟩ (by omega) (by omega) rfl ?_
    have n100 := hn.2
    have e4 := c_4
    change zb p.2 = 0 at e4
    simp only [zb_eq0] at e4
    exact ⟨by simp [pAt, zb, i32_nlt, i32_nle, e4], rfl⟩
  · refine aw_aload_n (pc' := 8) eX7_isAt_7 rfl rfl trivial ?_
    refine aw_Mint (pc' := 11) (kf := 11) hM eX7_isAt_8 rfl (by decide) q800 ?_
    refine aw_aload_n (pc' := 12) eX7_isAt_11 rfl rfl trivial ?_
    refine aw_Mint (pc' := 15) (kf := 10) hM eX7_isAt_12 rfl (by decide) q799 ?_
    refine aw_icmp_ge (pc' := 18) (tgt := 35) eX7_isAt_15 rfl (by decide) (fun c_15 => ?_) (fun c_15 => ?_)
    · refine aw_iconst (pc' := 36) (v := 0) eX7_isAt_35 rfl (by decide) ?_
      refine aw_ret (v := some (.int _)) eX7_isAt_36 ⟨rfl, rfl⟩ (by omega) (by omega) rfl ?_
      have n100 := hn.2
      have e4 := c_4
      change ¬ zb p.2 = 0 at e4
      simp only [zb_eq0, Bool.not_eq_false] at e4
      have e15 : ¬ p.1 < n := by have := ge_nI (a := p.1) (b := n) (by omega) (by omega) (by rw [← hn.1]; exact c_15); omega
      exact ⟨by simp [pAt, zb, i32_nlt, i32_nle, e4, e15], rfl⟩
    · have c9 : p.1 < n := nge_nI (by have := hn.2; omega) (by have := hn.2; omega) (by rw [← hn.1]; exact c_15)
      have n100 := hn.2
      refine aw_aload_n (pc' := 19) eX7_isAt_18 rfl rfl trivial ?_
      refine aw_Mref (pc' := 22) (kf := 9) 7 hM eX7_isAt_19 rfl (by decide) rfl q798 ?_
      refine aw_aload_n (pc' := 23) eX7_isAt_22 rfl rfl trivial ?_
      refine aw_Mint (pc' := 26) (kf := 11) hM eX7_isAt_23 rfl (by decide) q800 ?_
      refine aw_MaldC (pc' := 27) 7 p.1 hM eX7_isAt_26 rfl (by decide) (show vp_in _ 100 from vp_in_nI (by omega) (by omega)) (nI_clamp (by omega)) ?_
      refine aw_iload_n (pc' := 28) eX7_isAt_27 rfl rfl ?_
      refine aw_icmp_ne (pc' := 31) (tgt := 35) eX7_isAt_28 rfl (by decide) (fun c_28 => ?_) (fun c_28 => ?_)
      · refine aw_iconst (pc' := 36) (v := 0) eX7_isAt_35 rfl (by decide) ?_
        refine aw_ret (v := some (.int _)) eX7_isAt_36 ⟨rfl, rfl⟩ (by omega) (by omega) rfl ?_
        have n100 := hn.2
        have e4 := c_4
        change ¬ zb p.2 = 0 at e4
        simp only [zb_eq0, Bool.not_eq_false] at e4
        have fc_28 := c_28
        try simp only [show (mp U p).1 = U.1 from rfl, i32_nlt, i32_nle] at fc_28
        exact ⟨by simp [pAt, zb, i32_nlt, i32_nle, e4, c9, fc_28], rfl⟩
      · refine aw_iconst (pc' := 32) (v := 1) eX7_isAt_31 rfl (by decide) ?_
        refine aw_goto eX7_isAt_32 (by decide) (tgt := 36) ?_
        refine aw_ret (v := some (.int _)) eX7_isAt_36 ⟨rfl, rfl⟩ (by omega) (by omega) rfl ?_
        have n100 := hn.2
        have e4 := c_4
        change ¬ zb p.2 = 0 at e4
        simp only [zb_eq0, Bool.not_eq_false] at e4
        have fc_28 := c_28
        try simp only [show (mp U p).1 = U.1 from rfl, i32_nlt, i32_nle] at fc_28
        exact ⟨by simp [pAt, zb, i32_nlt, i32_nle, e4, c9, fc_28], rfl⟩
abbrev mX7_isDigit : MT := (RX7, cX7_isDigit, 1, (some .boolean), false)
theorem eX7_isDigit_0 : decode mX7_isDigit.2.1 0 = .ok (.aload_n 0, 1) := by decide +kernel
theorem eX7_isDigit_1 : decode mX7_isDigit.2.1 1 = .ok (.getfield 127, 3) := by decide +kernel
theorem eX7_isDigit_4 : decode mX7_isDigit.2.1 4 = .ok (.ifCond .eq 46, 3) := by decide +kernel
theorem eX7_isDigit_7 : decode mX7_isDigit.2.1 7 = .ok (.aload_n 0, 1) := by decide +kernel
theorem eX7_isDigit_8 : decode mX7_isDigit.2.1 8 = .ok (.getfield 130, 3) := by decide +kernel
theorem eX7_isDigit_11 : decode mX7_isDigit.2.1 11 = .ok (.aload_n 0, 1) := by decide +kernel
theorem eX7_isDigit_12 : decode mX7_isDigit.2.1 12 = .ok (.getfield 133, 3) := by decide +kernel
theorem eX7_isDigit_15 : decode mX7_isDigit.2.1 15 = .ok (.if_icmp .ge 35, 3) := by decide +kernel
theorem eX7_isDigit_18 : decode mX7_isDigit.2.1 18 = .ok (.aload_n 0, 1) := by decide +kernel
theorem eX7_isDigit_19 : decode mX7_isDigit.2.1 19 = .ok (.getfield 34, 3) := by decide +kernel
theorem eX7_isDigit_22 : decode mX7_isDigit.2.1 22 = .ok (.aload_n 0, 1) := by decide +kernel
theorem eX7_isDigit_23 : decode mX7_isDigit.2.1 23 = .ok (.getfield 130, 3) := by decide +kernel
theorem eX7_isDigit_26 : decode mX7_isDigit.2.1 26 = .ok (.iaload, 1) := by decide +kernel
theorem eX7_isDigit_27 : decode mX7_isDigit.2.1 27 = .ok (.bipush 48, 2) := by decide +kernel
theorem eX7_isDigit_29 : decode mX7_isDigit.2.1 29 = .ok (.if_icmp .lt 21, 3) := by decide +kernel
theorem eX7_isDigit_32 : decode mX7_isDigit.2.1 32 = .ok (.aload_n 0, 1) := by decide +kernel
theorem eX7_isDigit_33 : decode mX7_isDigit.2.1 33 = .ok (.getfield 34, 3) := by decide +kernel
theorem eX7_isDigit_36 : decode mX7_isDigit.2.1 36 = .ok (.aload_n 0, 1) := by decide +kernel
theorem eX7_isDigit_37 : decode mX7_isDigit.2.1 37 = .ok (.getfield 130, 3) := by decide +kernel
theorem eX7_isDigit_40 : decode mX7_isDigit.2.1 40 = .ok (.iaload, 1) := by decide +kernel
theorem eX7_isDigit_41 : decode mX7_isDigit.2.1 41 = .ok (.bipush 57, 2) := by decide +kernel
theorem eX7_isDigit_43 : decode mX7_isDigit.2.1 43 = .ok (.if_icmp .gt 7, 3) := by decide +kernel
theorem eX7_isDigit_46 : decode mX7_isDigit.2.1 46 = .ok (.iconst 1, 1) := by decide +kernel
theorem eX7_isDigit_47 : decode mX7_isDigit.2.1 47 = .ok (.goto 4, 3) := by decide +kernel
theorem eX7_isDigit_50 : decode mX7_isDigit.2.1 50 = .ok (.iconst 0, 1) := by decide +kernel
theorem eX7_isDigit_51 : decode mX7_isDigit.2.1 51 = .ok (.ireturn, 1) := by decide +kernel
theorem c_X7_isDigit {n : Nat} {p : PP} (hM : MAt h u (mp U p)) (hn : pOk U n) (ha : p.1 ≤ n) (hd : 0 ≤ d) : Ct l G mX7_isDigit yX7_isDigit d 0 0 [.ref u] h (fun r h' => r = some (.int (zb (pDg (U.1 7) n p))) ∧ h' = h) := by
  refine ct_of (lv := [some (.ref u)]) (by decide +kernel) rfl (fun z => by cases z) (fun _ => rfl) (fun _ => Nat.le_of_ble_eq_true rfl) ?_
  refine aw_aload_n (pc' := 1) eX7_isDigit_0 rfl rfl trivial ?_
  refine aw_Mint (pc' := 4) (kf := 12) hM eX7_isDigit_1 rfl (by decide) q801 ?_
  refine aw_if_eq (pc' := 7) (tgt := 50) eX7_isDigit_4 rfl (by decide) (fun c_4 => ?_) (fun c_4 => ?_)
  · refine aw_iconst (pc' := 51) (v := 0) eX7_isDigit_50 rfl (by decide) ?_
    refine aw_ret (v := some (.int _)) eX7_isDigit_51 ⟨rfl, rfl⟩ (by omega) (by omega) rfl ?_
    have n100 := hn.2
    have e4 := c_4
    change zb p.2 = 0 at e4
    simp only [zb_eq0] at e4
    exact ⟨by simp [pDg, zb, i32_nlt, i32_nle, e4], rfl⟩
  · refine aw_aload_n (pc' := 8) eX7_isDigit_7 rfl rfl trivial ?_
    refine aw_Mint (pc' := 11) (kf := 11) hM eX7_isDigit_8 rfl (by decide) q800 ?_
    refine aw_aload_n (pc' := 12) eX7_isDigit_11 rfl rfl trivial ?_
    refine aw_Mint (pc' := 15) (kf := 10) hM eX7_isDigit_12 rfl (by decide) q799 ?_
    refine aw_icmp_ge (pc' := 18) (tgt := 50) eX7_isDigit_15 rfl (by decide) (fun c_15 => ?_) (fun c_15 => ?_)
    · refine aw_iconst (pc' := 51) (v := 0) eX7_isDigit_50 rfl (by decide) ?_
      refine aw_ret (v := some (.int _)) eX7_isDigit_51 ⟨rfl, rfl⟩ (by omega) (by omega) rfl ?_
      have n100 := hn.2
      have e4 := c_4
      change ¬ zb p.2 = 0 at e4
      simp only [zb_eq0, Bool.not_eq_false] at e4
      have e15 : ¬ p.1 < n := by have := ge_nI (a := p.1) (b := n) (by omega) (by omega) (by rw [← hn.1]; exact c_15); omega
      exact ⟨by simp [pDg, zb, i32_nlt, i32_nle, e4, e15], rfl⟩
    · have c9 : p.1 < n := nge_nI (by have := hn.2; omega) (by have := hn.2; omega) (by rw [← hn.1]; exact c_15)
      have n100 := hn.2
      refine aw_aload_n (pc' := 19) eX7_isDigit_18 rfl rfl trivial ?_
      refine aw_Mref (pc' := 22) (kf := 9) 7 hM eX7_isDigit_19 rfl (by decide) rfl q798 ?_
      refine aw_aload_n (pc' := 23) eX7_isDigit_22 rfl rfl trivial ?_
      refine aw_Mint (pc' := 26) (kf := 11) hM eX7_isDigit_23 rfl (by decide) q800 ?_
      refine aw_MaldC (pc' := 27) 7 p.1 hM eX7_isDigit_26 rfl (by decide) (show vp_in _ 100 from vp_in_nI (by omega) (by omega)) (nI_clamp (by omega)) ?_
      refine aw_bipush (pc' := 29) (v := 48) eX7_isDigit_27 rfl (by decide) ?_
      refine aw_icmp_lt (pc' := 32) (tgt := 50) eX7_isDigit_29 rfl (by decide) (fun c_29 => ?_) (fun c_29 => ?_)
      · refine aw_iconst (pc' := 51) (v := 0) eX7_isDigit_50 rfl (by decide) ?_
        refine aw_ret (v := some (.int _)) eX7_isDigit_51 ⟨rfl, rfl⟩ (by omega) (by omega) rfl ?_
        have n100 := hn.2
        have e4 := c_4
        change ¬ zb p.2 = 0 at e4
        simp only [zb_eq0, Bool.not_eq_false] at e4
        have fc_29 := c_29
        try simp only [show (mp U p).1 = U.1 from rfl, i32_nlt, i32_nle] at fc_29
        have fc_29 := i32_nle.mpr fc_29
        exact ⟨by simp [pDg, zb, i32_nlt, i32_nle, e4, c9, fc_29], rfl⟩
      · refine aw_aload_n (pc' := 33) eX7_isDigit_32 rfl rfl trivial ?_
        refine aw_Mref (pc' := 36) (kf := 9) 7 hM eX7_isDigit_33 rfl (by decide) rfl q798 ?_
        refine aw_aload_n (pc' := 37) eX7_isDigit_36 rfl rfl trivial ?_
        refine aw_Mint (pc' := 40) (kf := 11) hM eX7_isDigit_37 rfl (by decide) q800 ?_
        refine aw_MaldC (pc' := 41) 7 p.1 hM eX7_isDigit_40 rfl (by decide) (show vp_in _ 100 from vp_in_nI (by omega) (by omega)) (nI_clamp (by omega)) ?_
        refine aw_bipush (pc' := 43) (v := 57) eX7_isDigit_41 rfl (by decide) ?_
        refine aw_icmp_gt (pc' := 46) (tgt := 50) eX7_isDigit_43 rfl (by decide) (fun c_43 => ?_) (fun c_43 => ?_)
        · refine aw_iconst (pc' := 51) (v := 0) eX7_isDigit_50 rfl (by decide) ?_
          refine aw_ret (v := some (.int _)) eX7_isDigit_51 ⟨rfl, rfl⟩ (by omega) (by omega) rfl ?_
          have n100 := hn.2
          have e4 := c_4
          change ¬ zb p.2 = 0 at e4
          simp only [zb_eq0, Bool.not_eq_false] at e4
          have fc_29 := c_29
          try simp only [show (mp U p).1 = U.1 from rfl, i32_nlt, i32_nle] at fc_29
          have fc_43 := c_43
          try simp only [show (mp U p).1 = U.1 from rfl, i32_nlt, i32_nle] at fc_43
          exact ⟨by simp [pDg, zb, i32_nlt, i32_nle, e4, c9, fc_29, fc_43], rfl⟩
        · refine aw_iconst (pc' := 47) (v := 1) eX7_isDigit_46 rfl (by decide) ?_
          refine aw_goto eX7_isDigit_47 (by decide) (tgt := 51) ?_
          refine aw_ret (v := some (.int _)) eX7_isDigit_51 ⟨rfl, rfl⟩ (by omega) (by omega) rfl ?_
          have n100 := hn.2
          have e4 := c_4
          change ¬ zb p.2 = 0 at e4
          simp only [zb_eq0, Bool.not_eq_false] at e4
          have fc_29 := c_29
          try simp only [show (mp U p).1 = U.1 from rfl, i32_nlt, i32_nle] at fc_29
          have fc_43 := c_43
          try simp only [show (mp U p).1 = U.1 from rfl, i32_nlt, i32_nle] at fc_43
          exact ⟨by simp [pDg, zb, i32_nlt, i32_nle, e4, c9, fc_29, fc_43], rfl⟩
abbrev mX7_takes : MT := (RX7, cX7_takes, 2, none, false)
theorem eX7_takes_0 : decode mX7_takes.2.1 0 = .ok (.aload_n 0, 1) := by decide +kernel
theorem eX7_takes_1 : decode mX7_takes.2.1 1 = .ok (.iload_n 1, 1) := by decide +kernel
theorem eX7_takes_2 : decode mX7_takes.2.1 2 = .ok (.invokevirtual 136, 3) := by decide +kernel
theorem eX7_takes_5 : decode mX7_takes.2.1 5 = .ok (.ifCond .eq 16, 3) := by decide +kernel
theorem eX7_takes_8 : decode mX7_takes.2.1 8 = .ok (.aload_n 0, 1) := by decide +kernel
theorem eX7_takes_9 : decode mX7_takes.2.1 9 = .ok (.dup, 1) := by decide +kernel
theorem eX7_takes_10 : decode mX7_takes.2.1 10 = .ok (.getfield 130, 3) := by decide +kernel
theorem eX7_takes_13 : decode mX7_takes.2.1 13 = .ok (.iconst 1, 1) := by decide +kernel
theorem eX7_takes_14 : decode mX7_takes.2.1 14 = .ok (.iadd, 1) := by decide +kernel
theorem eX7_takes_15 : decode mX7_takes.2.1 15 = .ok (.putfield 130, 3) := by decide +kernel
theorem eX7_takes_18 : decode mX7_takes.2.1 18 = .ok (.goto 8, 3) := by decide +kernel
theorem eX7_takes_21 : decode mX7_takes.2.1 21 = .ok (.aload_n 0, 1) := by decide +kernel
theorem eX7_takes_22 : decode mX7_takes.2.1 22 = .ok (.iconst 0, 1) := by decide +kernel
theorem eX7_takes_23 : decode mX7_takes.2.1 23 = .ok (.putfield 127, 3) := by decide +kernel
theorem eX7_takes_26 : decode mX7_takes.2.1 26 = .ok (.return_, 1) := by decide +kernel
theorem c_X7_takes {n : Nat} {p : PP} (hM : MAt h u (mp U p)) (hn : pOk U n) (ha : p.1 ≤ n) (c : Int32) (hd : 1 ≤ d) : Ct l G mX7_takes yX7_takes d 0 0 [.ref u, .int c] h (fun r h' => r = none ∧ MAt h' u (mp U (pTk (U.1 7) n p c)) ∧ Same u 19 h h') := by
  refine ct_of (lv := [some (.ref u), some (.int c)]) (by decide +kernel) rfl (fun z => by cases z) (fun _ => rfl) (fun _ => Nat.le_of_ble_eq_true rfl) ?_
  refine aw_aload_n (pc' := 1) eX7_takes_0 rfl rfl trivial ?_
  refine aw_iload_n (pc' := 2) eX7_takes_1 rfl rfl ?_
  refine aw_callv (pc' := 5) (nn := 1) (c_X7_isAt (d := d - 1) hM hn ha _ (by omega)) eX7_takes_2 rfl ⟨q921, q924, q62⟩ q923 q27 ⟨rfl, by decide +kernel, by decide +kernel, by decide +kernel⟩ rfl (by rw [hM.2.1]; exact ⟨rfl, rfl⟩) rfl ⟨by omega, by decide⟩ ⟨by omega, by omega⟩ rfl (Nat.le_of_ble_eq_true rfl) (fun v1 h2 hq3 => ?_)
  obtain ⟨rfl, rfl⟩ := hq3
  dsimp only [Option.toList, List.cons_append, List.nil_append]
  refine aw_if_eq (pc' := 8) (tgt := 21) eX7_takes_5 rfl (by decide) (fun c_5 => ?_) (fun c_5 => ?_)
  · refine aw_aload_n (pc' := 22) eX7_takes_21 rfl rfl trivial ?_
    refine aw_iconst (pc' := 23) (v := 0) eX7_takes_22 rfl (by decide) ?_
    refine aw_Mput (pc' := 26) 12 hM eX7_takes_23 rfl (by decide) (fun _ => by decide) q801 (fun h6 hM4 hs5 => ?_)
    refine aw_ret (v := none) eX7_takes_26 rfl (by omega) (by omega) rfl ?_
    simp only [zb_eq0, Bool.not_eq_false, Bool.not_eq_true, decide_eq_true_eq, decide_eq_false_iff_not, Decidable.not_not] at c_5
    have hM9 := hM4
    refine ⟨rfl, ?_, hs5⟩
    first
      | (rw [pTk, if_pos c_5]; rw [show msc (mp U p) 11 ((mp U p).2.1 11 + 1) = mp U (p.1 + 1, p.2) from mp_at U p (p.1 + 1) (nI_1 p.1)] at hM9; exact hM9)
      | (rw [pTk, if_neg (by rw [c_5]; decide)]; rw [mp_well U p false (x := 0) rfl] at hM9; exact hM9)
  · refine aw_aload_n (pc' := 9) eX7_takes_8 rfl rfl trivial ?_
    refine aw_dup (pc' := 10) eX7_takes_9 rfl rfl ?_
    refine aw_Mint (pc' := 13) (kf := 11) hM eX7_takes_10 rfl (by decide) q800 ?_
    refine aw_iconst (pc' := 14) (v := 1) eX7_takes_13 rfl (by decide) ?_
    refine aw_iadd (pc' := 15) eX7_takes_14 rfl ?_
    refine aw_Mput (pc' := 18) 11 hM eX7_takes_15 rfl (by decide) (fun z => absurd z (by decide)) q800 (fun h9 hM7 hs8 => ?_)
    refine aw_goto eX7_takes_18 (by decide) (tgt := 26) ?_
    refine aw_ret (v := none) eX7_takes_26 rfl (by omega) (by omega) rfl ?_
    simp only [zb_eq0, Bool.not_eq_false, Bool.not_eq_true, decide_eq_true_eq, decide_eq_false_iff_not, Decidable.not_not] at c_5
    have hM9 := hM7
    refine ⟨rfl, ?_, hs8⟩
    first
      | (rw [pTk, if_pos c_5]; rw [show msc (mp U p) 11 ((mp U p).2.1 11 + 1) = mp U (p.1 + 1, p.2) from mp_at U p (p.1 + 1) (nI_1 p.1)] at hM9; exact hM9)
      | (rw [pTk, if_neg (by rw [c_5]; decide)]; rw [mp_well U p false (x := 0) rfl] at hM9; exact hM9)
abbrev mX7_number : MT := (RX7, cX7_number, 2, (some .int), false)
theorem eX7_number_0 : decode mX7_number.2.1 0 = .ok (.aload_n 0, 1) := by decide +kernel
theorem eX7_number_1 : decode mX7_number.2.1 1 = .ok (.invokevirtual 139, 3) := by decide +kernel
theorem eX7_number_4 : decode mX7_number.2.1 4 = .ok (.ifCond .ne 10, 3) := by decide +kernel
theorem eX7_number_7 : decode mX7_number.2.1 7 = .ok (.aload_n 0, 1) := by decide +kernel
theorem eX7_number_8 : decode mX7_number.2.1 8 = .ok (.iconst 0, 1) := by decide +kernel
theorem eX7_number_9 : decode mX7_number.2.1 9 = .ok (.putfield 127, 3) := by decide +kernel
theorem eX7_number_12 : decode mX7_number.2.1 12 = .ok (.iconst 0, 1) := by decide +kernel
theorem eX7_number_13 : decode mX7_number.2.1 13 = .ok (.ireturn, 1) := by decide +kernel
theorem eX7_number_14 : decode mX7_number.2.1 14 = .ok (.aload_n 0, 1) := by decide +kernel
theorem eX7_number_15 : decode mX7_number.2.1 15 = .ok (.getfield 34, 3) := by decide +kernel
theorem eX7_number_18 : decode mX7_number.2.1 18 = .ok (.aload_n 0, 1) := by decide +kernel
theorem eX7_number_19 : decode mX7_number.2.1 19 = .ok (.getfield 130, 3) := by decide +kernel
theorem eX7_number_22 : decode mX7_number.2.1 22 = .ok (.iaload, 1) := by decide +kernel
theorem eX7_number_23 : decode mX7_number.2.1 23 = .ok (.bipush 48, 2) := by decide +kernel
theorem eX7_number_25 : decode mX7_number.2.1 25 = .ok (.isub, 1) := by decide +kernel
theorem eX7_number_26 : decode mX7_number.2.1 26 = .ok (.istore_n 1, 1) := by decide +kernel
theorem eX7_number_27 : decode mX7_number.2.1 27 = .ok (.aload_n 0, 1) := by decide +kernel
theorem eX7_number_28 : decode mX7_number.2.1 28 = .ok (.dup, 1) := by decide +kernel
theorem eX7_number_29 : decode mX7_number.2.1 29 = .ok (.getfield 130, 3) := by decide +kernel
theorem eX7_number_32 : decode mX7_number.2.1 32 = .ok (.iconst 1, 1) := by decide +kernel
theorem eX7_number_33 : decode mX7_number.2.1 33 = .ok (.iadd, 1) := by decide +kernel
theorem eX7_number_34 : decode mX7_number.2.1 34 = .ok (.putfield 130, 3) := by decide +kernel
theorem eX7_number_37 : decode mX7_number.2.1 37 = .ok (.aload_n 0, 1) := by decide +kernel
theorem eX7_number_38 : decode mX7_number.2.1 38 = .ok (.invokevirtual 139, 3) := by decide +kernel
theorem eX7_number_41 : decode mX7_number.2.1 41 = .ok (.ifCond .eq 31, 3) := by decide +kernel
theorem eX7_number_44 : decode mX7_number.2.1 44 = .ok (.bipush 10, 2) := by decide +kernel
theorem eX7_number_46 : decode mX7_number.2.1 46 = .ok (.iload_n 1, 1) := by decide +kernel
theorem eX7_number_47 : decode mX7_number.2.1 47 = .ok (.imul, 1) := by decide +kernel
theorem eX7_number_48 : decode mX7_number.2.1 48 = .ok (.aload_n 0, 1) := by decide +kernel
theorem eX7_number_49 : decode mX7_number.2.1 49 = .ok (.getfield 34, 3) := by decide +kernel
theorem eX7_number_52 : decode mX7_number.2.1 52 = .ok (.aload_n 0, 1) := by decide +kernel
theorem eX7_number_53 : decode mX7_number.2.1 53 = .ok (.getfield 130, 3) := by decide +kernel
theorem eX7_number_56 : decode mX7_number.2.1 56 = .ok (.iaload, 1) := by decide +kernel
theorem eX7_number_57 : decode mX7_number.2.1 57 = .ok (.iadd, 1) := by decide +kernel
theorem eX7_number_58 : decode mX7_number.2.1 58 = .ok (.bipush 48, 2) := by decide +kernel
theorem eX7_number_60 : decode mX7_number.2.1 60 = .ok (.isub, 1) := by decide +kernel
theorem eX7_number_61 : decode mX7_number.2.1 61 = .ok (.istore_n 1, 1) := by decide +kernel
theorem eX7_number_62 : decode mX7_number.2.1 62 = .ok (.aload_n 0, 1) := by decide +kernel
theorem eX7_number_63 : decode mX7_number.2.1 63 = .ok (.dup, 1) := by decide +kernel
theorem eX7_number_64 : decode mX7_number.2.1 64 = .ok (.getfield 130, 3) := by decide +kernel
theorem eX7_number_67 : decode mX7_number.2.1 67 = .ok (.iconst 1, 1) := by decide +kernel
theorem eX7_number_68 : decode mX7_number.2.1 68 = .ok (.iadd, 1) := by decide +kernel
theorem eX7_number_69 : decode mX7_number.2.1 69 = .ok (.putfield 130, 3) := by decide +kernel
theorem eX7_number_72 : decode mX7_number.2.1 72 = .ok (.iload_n 1, 1) := by decide +kernel
theorem eX7_number_73 : decode mX7_number.2.1 73 = .ok (.ireturn, 1) := by decide +kernel
theorem c_X7_number {n : Nat} {p : PP} (hM : MAt h u (mp U p)) (hn : pOk U n) (ha : p.1 ≤ n) (hd : 1 ≤ d) : Ct l G mX7_number yX7_number d 0 0 [.ref u] h (fun r h' => r = some (.int (pNum (U.1 7) n p).1) ∧ MAt h' u (mp U (pNum (U.1 7) n p).2) ∧ Same u 19 h h') := by
  refine ct_of (lv := [some (.ref u), none]) (by decide +kernel) rfl (fun z => by cases z) (fun _ => rfl) (fun _ => Nat.le_of_ble_eq_true rfl) ?_
  refine aw_aload_n (pc' := 1) eX7_number_0 rfl rfl trivial ?_
  refine aw_callv (pc' := 4) (nn := 0) (c_X7_isDigit (d := d - 1) hM hn ha (by omega)) eX7_number_1 rfl ⟨q933, q936, q62⟩ q935 q30 ⟨rfl, by decide +kernel, by decide +kernel, by decide +kernel⟩ rfl (by rw [hM.2.1]; exact ⟨rfl, rfl⟩) rfl ⟨by omega, by decide⟩ ⟨by omega, by omega⟩ rfl (Nat.le_of_ble_eq_true rfl) (fun v1 h2 hq3 => ?_)
  obtain ⟨rfl, rfl⟩ := hq3
  dsimp only [Option.toList, List.cons_append, List.nil_append]
  refine aw_if_ne (pc' := 7) (tgt := 14) eX7_number_4 rfl (by decide) (fun c_4 => ?_) (fun c_4 => ?_)
  · simp only [zb_eq0, Bool.not_eq_false, Bool.not_eq_true, decide_eq_true_eq, decide_eq_false_iff_not, Decidable.not_not] at c_4
    have c9 := pDg_lt c_4
    have n100 := hn.2
    refine aw_aload_n (pc' := 15) eX7_number_14 rfl rfl trivial ?_
    refine aw_Mref (pc' := 18) (kf := 9) 7 hM eX7_number_15 rfl (by decide) rfl q798 ?_
    refine aw_aload_n (pc' := 19) eX7_number_18 rfl rfl trivial ?_
    refine aw_Mint (pc' := 22) (kf := 11) hM eX7_number_19 rfl (by decide) q800 ?_
    refine aw_MaldC (pc' := 23) 7 p.1 hM eX7_number_22 rfl (by decide) (show vp_in _ 100 from vp_in_nI (by omega) (by omega)) (nI_clamp (by omega)) ?_
    refine aw_bipush (pc' := 25) (v := 48) eX7_number_23 rfl (by decide) ?_
    refine aw_isub (pc' := 26) eX7_number_25 rfl ?_
    refine aw_istore_n (pc' := 27) eX7_number_26 rfl (by decide) ?_
    dsimp only [zst, zst2, zcut]
    refine aw_aload_n (pc' := 28) eX7_number_27 rfl rfl trivial ?_
    refine aw_dup (pc' := 29) eX7_number_28 rfl rfl ?_
    refine aw_Mint (pc' := 32) (kf := 11) hM eX7_number_29 rfl (by decide) q800 ?_
    refine aw_iconst (pc' := 33) (v := 1) eX7_number_32 rfl (by decide) ?_
    refine aw_iadd (pc' := 34) eX7_number_33 rfl ?_
    refine aw_Mput (pc' := 37) 11 hM eX7_number_34 rfl (by decide) (fun z => absurd z (by decide)) q800 (fun h6 hM4 hs5 => ?_)
    refine aw_aload_n (pc' := 38) eX7_number_37 rfl rfl trivial ?_
    have hM8 := hM4
    rw [show msc (mp U p) 11 ((mp U p).2.1 11 + 1) = mp U (p.1 + 1, p.2) from mp_at U p (p.1 + 1) (nI_1 p.1)] at hM8
    refine aw_callv (pc' := 41) (nn := 0) (c_X7_isDigit (d := d - 1) hM8 hn (show p.1 + 1 ≤ n by omega) (by omega)) eX7_number_38 rfl ⟨q933, q936, q62⟩ q935 q30 ⟨rfl, by decide +kernel, by decide +kernel, by decide +kernel⟩ rfl (by rw [hM8.2.1]; exact ⟨rfl, rfl⟩) rfl ⟨by omega, by decide⟩ ⟨by omega, by omega⟩ rfl (Nat.le_of_ble_eq_true rfl) (fun v7 h8 hq9 => ?_)
    obtain ⟨rfl, rfl⟩ := hq9
    dsimp only [Option.toList, List.cons_append, List.nil_append]
    refine aw_if_eq (pc' := 44) (tgt := 72) eX7_number_41 rfl (by decide) (fun c_41 => ?_) (fun c_41 => ?_)
    · refine aw_iload_n (pc' := 73) eX7_number_72 rfl rfl ?_
      refine aw_ret (v := some (.int _)) eX7_number_73 ⟨rfl, rfl⟩ (by omega) (by omega) rfl ?_
      try simp only [zb_eq0, Bool.not_eq_false, Bool.not_eq_true, decide_eq_true_eq, decide_eq_false_iff_not, Decidable.not_not] at c_41
      have hM9 := hM8
      first
        | (rw [show msc (mp U (p.1 + 1, p.2)) 11 ((mp U (p.1 + 1, p.2)).2.1 11 + 1) = mp U (p.1 + 2, p.2) from mp_at U (p.1 + 1, p.2) (p.1 + 2) (nI_1 (p.1 + 1))] at hM9
           exact ⟨by rw [pNum, if_pos c_4, if_pos c_41]; rfl, by rw [pNum, if_pos c_4, if_pos c_41]; exact hM9, hs5⟩)
        | exact ⟨by rw [pNum, if_pos c_4, if_neg (by rw [c_41]; decide)]; rfl, by rw [pNum, if_pos c_4, if_neg (by rw [c_41]; decide)]; exact hM9, hs5⟩
    · simp only [zb_eq0, Bool.not_eq_false, Bool.not_eq_true, decide_eq_true_eq, decide_eq_false_iff_not, Decidable.not_not] at c_41
      have d9 : p.1 + 1 < n := pDg_lt c_41
      refine aw_bipush (pc' := 46) (v := 10) eX7_number_44 rfl (by decide) ?_
      refine aw_iload_n (pc' := 47) eX7_number_46 rfl rfl ?_
      refine aw_imul (pc' := 48) eX7_number_47 rfl ?_
      refine aw_aload_n (pc' := 49) eX7_number_48 rfl rfl trivial ?_
      refine aw_Mref (pc' := 52) (kf := 9) 7 hM8 eX7_number_49 rfl (by decide) rfl q798 ?_
      refine aw_aload_n (pc' := 53) eX7_number_52 rfl rfl trivial ?_
      refine aw_Mint (pc' := 56) (kf := 11) hM8 eX7_number_53 rfl (by decide) q800 ?_
      refine aw_MaldC (pc' := 57) 7 (p.1 + 1) hM8 eX7_number_56 rfl (by decide) (show vp_in _ 100 from vp_in_nI (n := p.1 + 1) (by omega) (by omega)) (nI_clamp (n := p.1 + 1) (by omega)) ?_
      refine aw_iadd (pc' := 58) eX7_number_57 rfl ?_
      refine aw_bipush (pc' := 60) (v := 48) eX7_number_58 rfl (by decide) ?_
      refine aw_isub (pc' := 61) eX7_number_60 rfl ?_
      refine aw_istore_n (pc' := 62) eX7_number_61 rfl (by decide) ?_
      dsimp only [zst, zst2, zcut]
      refine aw_aload_n (pc' := 63) eX7_number_62 rfl rfl trivial ?_
      refine aw_dup (pc' := 64) eX7_number_63 rfl rfl ?_
      refine aw_Mint (pc' := 67) (kf := 11) hM8 eX7_number_64 rfl (by decide) q800 ?_
      refine aw_iconst (pc' := 68) (v := 1) eX7_number_67 rfl (by decide) ?_
      refine aw_iadd (pc' := 69) eX7_number_68 rfl ?_
      refine aw_Mput (pc' := 72) 11 hM8 eX7_number_69 rfl (by decide) (fun z => absurd z (by decide)) q800 (fun h12 hM10 hs11 => ?_)
      have hT13 := hs5.tr hs11
      refine aw_iload_n (pc' := 73) eX7_number_72 rfl rfl ?_
      refine aw_ret (v := some (.int _)) eX7_number_73 ⟨rfl, rfl⟩ (by omega) (by omega) rfl ?_
      try simp only [zb_eq0, Bool.not_eq_false, Bool.not_eq_true, decide_eq_true_eq, decide_eq_false_iff_not, Decidable.not_not] at c_41
      have hM9 := hM10
      first
        | (rw [show msc (mp U (p.1 + 1, p.2)) 11 ((mp U (p.1 + 1, p.2)).2.1 11 + 1) = mp U (p.1 + 2, p.2) from mp_at U (p.1 + 1, p.2) (p.1 + 2) (nI_1 (p.1 + 1))] at hM9
           exact ⟨by rw [pNum, if_pos c_4, if_pos c_41]; rfl, by rw [pNum, if_pos c_4, if_pos c_41]; exact hM9, hT13⟩)
        | exact ⟨by rw [pNum, if_pos c_4, if_neg (by rw [c_41]; decide)]; rfl, by rw [pNum, if_pos c_4, if_neg (by rw [c_41]; decide)]; exact hM9, hT13⟩
  · refine aw_aload_n (pc' := 8) eX7_number_7 rfl rfl trivial ?_
    refine aw_iconst (pc' := 9) (v := 0) eX7_number_8 rfl (by decide) ?_
    refine aw_Mput (pc' := 12) 12 hM eX7_number_9 rfl (by decide) (fun _ => by decide) q801 (fun h16 hM14 hs15 => ?_)
    refine aw_iconst (pc' := 13) (v := 0) eX7_number_12 rfl (by decide) ?_
    refine aw_ret (v := some (.int _)) eX7_number_13 ⟨rfl, rfl⟩ (by omega) (by omega) rfl ?_
    simp only [zb_eq0, Bool.not_eq_false, Bool.not_eq_true, decide_eq_true_eq, decide_eq_false_iff_not, Decidable.not_not] at c_4
    have hM9 := hM14
    rw [mp_well U p false (x := 0) rfl] at hM9
    exact ⟨by rw [pNum, if_neg (by rw [c_4]; decide)], by rw [pNum, if_neg (by rw [c_4]; decide)]; exact hM9, hs15⟩
end M7
