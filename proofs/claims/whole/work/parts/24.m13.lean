/-! the model: how heavy each lies -/
section M13
variable {l : Launch} {G : GT} {u : Nat} {U U1 : MS} {d n m t : Nat} {g : Nat → Int32} {h : Hp} {Q : Option Value → Hp → Prop}
def sTwin (g : Nat → Int32) (i : Nat) : Nat → Bool
  | 0 => false
  | k + 1 => sTwin g i k || (decide (k ≠ i) && (decide (g (10 * k) = 3) || decide (g (10 * k) = 6)) && decide (g (10 * k + 3) = 1))
def sLoad (s : Int32) (g : Nat → Int32) (m t i : Nat) : Int32 :=
  if g (10 * i) = 1 then s + g (10 * i + 1) else if g (10 * i) = 2 then s / 2 else if g (10 * i) = 3 then s + (if sTwin g i m = true then 5 else 0)
  else if g (10 * i) = 4 then (if g (10 * i + 4) < g (10 * i + 1) then 0 else s + g (10 * i + 1)) else if g (10 * i) = 5 then s / 2 + (if g (10 * i + 4) < 9 then g (10 * i + 4) else 9)
  else if g (10 * i) = 6 then s + (if sTwin g i m = true then 5 else 0) + g (10 * i + (6 + t % 4)) else s
abbrev FT : Type := (Nat → Int32) → Nat → Int32 × Int32
def lod (F : FT) (g : Nat → Int32) (m t i : Nat) : Int32 := sLoad (F g i).1 g m t i
def sLoads (F : FT) (g : Nat → Int32) (m t : Nat) : Nat → Int32
  | 0 => 0
  | i + 1 => sLoads F g m t i + (if g (10 * i + 3) = 1 then lod F g m t i else 0)
theorem nI_ne {a b : Nat} (ha : a < 2 ^ 31) (hb : b < 2 ^ 31) : (¬ nI a = nI b) ↔ a ≠ b := by rw [nI_eq ha hb]

abbrev mX7_isAnotherTwin : MT := (RX7, cX7_isAnotherTwin, 4, (some .boolean), false)
theorem eX7_isAnotherTwin_0 : decode mX7_isAnotherTwin.2.1 0 = .ok (.iconst 0, 1) := by decide +kernel
theorem eX7_isAnotherTwin_1 : decode mX7_isAnotherTwin.2.1 1 = .ok (.istore_n 2, 1) := by decide +kernel
theorem eX7_isAnotherTwin_2 : decode mX7_isAnotherTwin.2.1 2 = .ok (.iconst 0, 1) := by decide +kernel
theorem eX7_isAnotherTwin_3 : decode mX7_isAnotherTwin.2.1 3 = .ok (.istore_n 3, 1) := by decide +kernel
theorem eX7_isAnotherTwin_4 : decode mX7_isAnotherTwin.2.1 4 = .ok (.iload_n 3, 1) := by decide +kernel
theorem eX7_isAnotherTwin_5 : decode mX7_isAnotherTwin.2.1 5 = .ok (.aload_n 0, 1) := by decide +kernel
theorem eX7_isAnotherTwin_6 : decode mX7_isAnotherTwin.2.1 6 = .ok (.getfield 15, 3) := by decide +kernel
theorem eX7_isAnotherTwin_9 : decode mX7_isAnotherTwin.2.1 9 = .ok (.bipush 60, 2) := by decide +kernel
theorem eX7_isAnotherTwin_11 : decode mX7_isAnotherTwin.2.1 11 = .ok (.iaload, 1) := by decide +kernel
theorem eX7_isAnotherTwin_12 : decode mX7_isAnotherTwin.2.1 12 = .ok (.if_icmp .ge 54, 3) := by decide +kernel
theorem eX7_isAnotherTwin_15 : decode mX7_isAnotherTwin.2.1 15 = .ok (.iload_n 2, 1) := by decide +kernel
theorem eX7_isAnotherTwin_16 : decode mX7_isAnotherTwin.2.1 16 = .ok (.ifCond .ne 38, 3) := by decide +kernel
theorem eX7_isAnotherTwin_19 : decode mX7_isAnotherTwin.2.1 19 = .ok (.iload_n 3, 1) := by decide +kernel
theorem eX7_isAnotherTwin_20 : decode mX7_isAnotherTwin.2.1 20 = .ok (.iload_n 1, 1) := by decide +kernel
theorem eX7_isAnotherTwin_21 : decode mX7_isAnotherTwin.2.1 21 = .ok (.if_icmp .eq 37, 3) := by decide +kernel
theorem eX7_isAnotherTwin_24 : decode mX7_isAnotherTwin.2.1 24 = .ok (.aload_n 0, 1) := by decide +kernel
theorem eX7_isAnotherTwin_25 : decode mX7_isAnotherTwin.2.1 25 = .ok (.iload_n 3, 1) := by decide +kernel
theorem eX7_isAnotherTwin_26 : decode mX7_isAnotherTwin.2.1 26 = .ok (.iconst 0, 1) := by decide +kernel
theorem eX7_isAnotherTwin_27 : decode mX7_isAnotherTwin.2.1 27 = .ok (.invokevirtual 84, 3) := by decide +kernel
theorem eX7_isAnotherTwin_30 : decode mX7_isAnotherTwin.2.1 30 = .ok (.iconst 3, 1) := by decide +kernel
theorem eX7_isAnotherTwin_31 : decode mX7_isAnotherTwin.2.1 31 = .ok (.if_icmp .eq 14, 3) := by decide +kernel
theorem eX7_isAnotherTwin_34 : decode mX7_isAnotherTwin.2.1 34 = .ok (.aload_n 0, 1) := by decide +kernel
theorem eX7_isAnotherTwin_35 : decode mX7_isAnotherTwin.2.1 35 = .ok (.iload_n 3, 1) := by decide +kernel
theorem eX7_isAnotherTwin_36 : decode mX7_isAnotherTwin.2.1 36 = .ok (.iconst 0, 1) := by decide +kernel
theorem eX7_isAnotherTwin_37 : decode mX7_isAnotherTwin.2.1 37 = .ok (.invokevirtual 84, 3) := by decide +kernel
theorem eX7_isAnotherTwin_40 : decode mX7_isAnotherTwin.2.1 40 = .ok (.bipush 6, 2) := by decide +kernel
theorem eX7_isAnotherTwin_42 : decode mX7_isAnotherTwin.2.1 42 = .ok (.if_icmp .ne 16, 3) := by decide +kernel
theorem eX7_isAnotherTwin_45 : decode mX7_isAnotherTwin.2.1 45 = .ok (.aload_n 0, 1) := by decide +kernel
theorem eX7_isAnotherTwin_46 : decode mX7_isAnotherTwin.2.1 46 = .ok (.iload_n 3, 1) := by decide +kernel
theorem eX7_isAnotherTwin_47 : decode mX7_isAnotherTwin.2.1 47 = .ok (.iconst 1, 1) := by decide +kernel
theorem eX7_isAnotherTwin_48 : decode mX7_isAnotherTwin.2.1 48 = .ok (.invokevirtual 105, 3) := by decide +kernel
theorem eX7_isAnotherTwin_51 : decode mX7_isAnotherTwin.2.1 51 = .ok (.ifCond .eq 7, 3) := by decide +kernel
theorem eX7_isAnotherTwin_54 : decode mX7_isAnotherTwin.2.1 54 = .ok (.iconst 1, 1) := by decide +kernel
theorem eX7_isAnotherTwin_55 : decode mX7_isAnotherTwin.2.1 55 = .ok (.goto 4, 3) := by decide +kernel
theorem eX7_isAnotherTwin_58 : decode mX7_isAnotherTwin.2.1 58 = .ok (.iconst 0, 1) := by decide +kernel
theorem eX7_isAnotherTwin_59 : decode mX7_isAnotherTwin.2.1 59 = .ok (.istore_n 2, 1) := by decide +kernel
theorem eX7_isAnotherTwin_60 : decode mX7_isAnotherTwin.2.1 60 = .ok (.iinc 3 1, 3) := by decide +kernel
theorem eX7_isAnotherTwin_63 : decode mX7_isAnotherTwin.2.1 63 = .ok (.goto (-59), 3) := by decide +kernel
theorem eX7_isAnotherTwin_66 : decode mX7_isAnotherTwin.2.1 66 = .ok (.iload_n 2, 1) := by decide +kernel
theorem eX7_isAnotherTwin_67 : decode mX7_isAnotherTwin.2.1 67 = .ok (.ireturn, 1) := by decide +kernel
theorem lp_X7_isAnotherTwin (hM : MAt h u U) (hm : U.1 1 60 = nI m) (hm6 : m ≤ 6) {i : Nat} (hi : i < 6) (hd : 2 ≤ d) (hQ : Q (some (.int (zb (sTwin (U.1 1) i m)))) h) : ∀ (j k : Nat) (y x : Int32), j = m - k → k ≤ m → y = nI k → x = zb (sTwin (U.1 1) i k) → AW l G mX7_isAnotherTwin d 0 0 Q 0 0 h [some (.ref u), some (.int (nI i)), some (.int x), some (.int y)] [] 4 := by
  intro j
  induction j using Nat.strongRecOn with
  | _ j ih =>
    intro k y x hj hk hy hx
    subst hy hx
    refine aw_iload_n (pc' := 5) eX7_isAnotherTwin_4 rfl rfl ?_
    refine aw_aload_n (pc' := 6) eX7_isAnotherTwin_5 rfl rfl trivial ?_
    refine aw_Mref (pc' := 9) (kf := 0) 1 hM eX7_isAnotherTwin_6 rfl (by decide) rfl q789 ?_
    refine aw_bipush (pc' := 11) (v := 60) eX7_isAnotherTwin_9 rfl (by decide) ?_
    refine aw_MaldC (pc' := 12) 1 60 hM eX7_isAnotherTwin_11 rfl (by decide) (by unfold vp_in; decide) (by decide) ?_
    refine aw_icmp_ge (pc' := 15) (tgt := 66) eX7_isAnotherTwin_12 rfl (by decide) (fun c_12 => ?_) (fun c_12 => ?_)
    · rw [hm] at c_12
      have c9 := ge_nI (by omega) (by omega) c_12
      obtain rfl : k = m := by omega
      refine aw_iload_n (pc' := 67) eX7_isAnotherTwin_66 rfl rfl ?_
      refine aw_ret (v := some (.int _)) eX7_isAnotherTwin_67 ⟨rfl, zbn _⟩ (by omega) (by omega) rfl ?_
      exact hQ
    · rw [hm] at c_12
      have c9 := nge_nI (by omega) (by omega) c_12
      refine aw_iload_n (pc' := 16) eX7_isAnotherTwin_15 rfl rfl ?_
      refine aw_if_ne (pc' := 19) (tgt := 54) eX7_isAnotherTwin_16 rfl (by decide) (fun c_16 => ?_) (fun c_16 => ?_)
      · refine aw_iconst (pc' := 55) (v := 1) eX7_isAnotherTwin_54 rfl (by decide) ?_
        refine aw_goto eX7_isAnotherTwin_55 (by decide) (tgt := 59) ?_
        refine aw_istore_n (pc' := 60) eX7_isAnotherTwin_59 rfl (by decide) ?_
        dsimp only [zst, zst2, zcut]
        refine aw_iinc (pc' := 63) eX7_isAnotherTwin_60 rfl rfl rfl (by decide) ?_
        dsimp only [zst, zst2, zcut]
        refine aw_goto eX7_isAnotherTwin_63 (by decide) (tgt := 4) ?_
        have c_16 := zb_ne0.mp c_16
        refine ih (m - (k + 1)) (by omega) (k + 1) _ _ rfl (by omega) (nI_inc k) ?_
        first | (simp [sTwin, zb, c_16]; done) | (simp_all [sTwin, zb]; done)
      · refine aw_iload_n (pc' := 20) eX7_isAnotherTwin_19 rfl rfl ?_
        refine aw_iload_n (pc' := 21) eX7_isAnotherTwin_20 rfl rfl ?_
        refine aw_icmp_eq (pc' := 24) (tgt := 58) eX7_isAnotherTwin_21 rfl (by decide) (fun c_21 => ?_) (fun c_21 => ?_)
        · refine aw_iconst (pc' := 59) (v := 0) eX7_isAnotherTwin_58 rfl (by decide) ?_
          refine aw_istore_n (pc' := 60) eX7_isAnotherTwin_59 rfl (by decide) ?_
          dsimp only [zst, zst2, zcut]
          refine aw_iinc (pc' := 63) eX7_isAnotherTwin_60 rfl rfl rfl (by decide) ?_
          dsimp only [zst, zst2, zcut]
          refine aw_goto eX7_isAnotherTwin_63 (by decide) (tgt := 4) ?_
          simp only [zb_eq0, Bool.not_eq_false, Bool.not_eq_true, decide_eq_true_eq, decide_eq_false_iff_not, Decidable.not_not] at c_16
          have g21 := (nI_eq (by omega) (by omega)).mp c_21
          refine ih (m - (k + 1)) (by omega) (k + 1) _ _ rfl (by omega) (nI_inc k) ?_
          first | (simp [sTwin, zb, c_16, g21]; done) | (simp_all [sTwin, zb]; done)
        · refine aw_aload_n (pc' := 25) eX7_isAnotherTwin_24 rfl rfl trivial ?_
          refine aw_iload_n (pc' := 26) eX7_isAnotherTwin_25 rfl rfl ?_
          refine aw_iconst (pc' := 27) (v := 0) eX7_isAnotherTwin_26 rfl (by decide) ?_
          refine aw_callv (pc' := 30) (nn := 2) (c_one (d := d - 1) hM k 0 (by omega) (by omega)) eX7_isAnotherTwin_27 rfl ⟨q901, q904, q62⟩ q903 q22 ⟨rfl, by decide +kernel, by decide +kernel, by decide +kernel⟩ rfl (by rw [hM.2.1]; exact ⟨rfl, rfl⟩) rfl ⟨by omega, by decide⟩ ⟨by omega, by omega⟩ rfl (Nat.le_of_ble_eq_true rfl) (fun v1 h2 hq3 => ?_)
          obtain ⟨rfl, rfl⟩ := hq3
          dsimp only [Option.toList, List.cons_append, List.nil_append]
          refine aw_iconst (pc' := 31) (v := 3) eX7_isAnotherTwin_30 rfl (by decide) ?_
          refine aw_icmp_eq (pc' := 34) (tgt := 45) eX7_isAnotherTwin_31 rfl (by decide) (fun c_31 => ?_) (fun c_31 => ?_)
          · refine aw_aload_n (pc' := 46) eX7_isAnotherTwin_45 rfl rfl trivial ?_
            refine aw_iload_n (pc' := 47) eX7_isAnotherTwin_46 rfl rfl ?_
            refine aw_iconst (pc' := 48) (v := 1) eX7_isAnotherTwin_47 rfl (by decide) ?_
            refine aw_callv (pc' := 51) (nn := 2) (c_isAs (d := d - 1) hM k 1 (by omega) (by omega)) eX7_isAnotherTwin_48 rfl ⟨q957, q960, q62⟩ q959 q36 ⟨rfl, by decide +kernel, by decide +kernel, by decide +kernel⟩ rfl (by rw [hM.2.1]; exact ⟨rfl, rfl⟩) rfl ⟨by omega, by decide⟩ ⟨by omega, by omega⟩ rfl (Nat.le_of_ble_eq_true rfl) (fun v4 h5 hq6 => ?_)
            obtain ⟨rfl, rfl⟩ := hq6
            dsimp only [Option.toList, List.cons_append, List.nil_append]
            refine aw_if_eq (pc' := 54) (tgt := 58) eX7_isAnotherTwin_51 rfl (by decide) (fun c_51 => ?_) (fun c_51 => ?_)
            · refine aw_iconst (pc' := 59) (v := 0) eX7_isAnotherTwin_58 rfl (by decide) ?_
              refine aw_istore_n (pc' := 60) eX7_isAnotherTwin_59 rfl (by decide) ?_
              dsimp only [zst, zst2, zcut]
              refine aw_iinc (pc' := 63) eX7_isAnotherTwin_60 rfl rfl rfl (by decide) ?_
              dsimp only [zst, zst2, zcut]
              refine aw_goto eX7_isAnotherTwin_63 (by decide) (tgt := 4) ?_
              simp only [zb_eq0, Bool.not_eq_false, Bool.not_eq_true, decide_eq_true_eq, decide_eq_false_iff_not, Decidable.not_not] at c_16
              have g21 := (nI_ne (by omega) (by omega)).mp c_21
              have c_31 := (c_31 : _)
              simp only [zb_eq0, Bool.not_eq_false, Bool.not_eq_true, decide_eq_true_eq, decide_eq_false_iff_not, Decidable.not_not] at c_51
              refine ih (m - (k + 1)) (by omega) (k + 1) _ _ rfl (by omega) (nI_inc k) ?_
              first | (simp [sTwin, zb, c_16, g21, c_31, c_51]; done) | (simp_all [sTwin, zb]; done)
            · refine aw_iconst (pc' := 55) (v := 1) eX7_isAnotherTwin_54 rfl (by decide) ?_
              refine aw_goto eX7_isAnotherTwin_55 (by decide) (tgt := 59) ?_
              refine aw_istore_n (pc' := 60) eX7_isAnotherTwin_59 rfl (by decide) ?_
              dsimp only [zst, zst2, zcut]
              refine aw_iinc (pc' := 63) eX7_isAnotherTwin_60 rfl rfl rfl (by decide) ?_
              dsimp only [zst, zst2, zcut]
              refine aw_goto eX7_isAnotherTwin_63 (by decide) (tgt := 4) ?_
              simp only [zb_eq0, Bool.not_eq_false, Bool.not_eq_true, decide_eq_true_eq, decide_eq_false_iff_not, Decidable.not_not] at c_16
              have g21 := (nI_ne (by omega) (by omega)).mp c_21
              have c_31 := (c_31 : _)
              simp only [zb_eq0, Bool.not_eq_false, Bool.not_eq_true, decide_eq_true_eq, decide_eq_false_iff_not, Decidable.not_not] at c_51
              refine ih (m - (k + 1)) (by omega) (k + 1) _ _ rfl (by omega) (nI_inc k) ?_
              first | (simp [sTwin, zb, c_16, g21, c_31, c_51]; done) | (simp_all [sTwin, zb]; done)
          · refine aw_aload_n (pc' := 35) eX7_isAnotherTwin_34 rfl rfl trivial ?_
            refine aw_iload_n (pc' := 36) eX7_isAnotherTwin_35 rfl rfl ?_
            refine aw_iconst (pc' := 37) (v := 0) eX7_isAnotherTwin_36 rfl (by decide) ?_
            refine aw_callv (pc' := 40) (nn := 2) (c_one (d := d - 1) hM k 0 (by omega) (by omega)) eX7_isAnotherTwin_37 rfl ⟨q901, q904, q62⟩ q903 q22 ⟨rfl, by decide +kernel, by decide +kernel, by decide +kernel⟩ rfl (by rw [hM.2.1]; exact ⟨rfl, rfl⟩) rfl ⟨by omega, by decide⟩ ⟨by omega, by omega⟩ rfl (Nat.le_of_ble_eq_true rfl) (fun v7 h8 hq9 => ?_)
            obtain ⟨rfl, rfl⟩ := hq9
            dsimp only [Option.toList, List.cons_append, List.nil_append]
            refine aw_bipush (pc' := 42) (v := 6) eX7_isAnotherTwin_40 rfl (by decide) ?_
            refine aw_icmp_ne (pc' := 45) (tgt := 58) eX7_isAnotherTwin_42 rfl (by decide) (fun c_42 => ?_) (fun c_42 => ?_)
            · refine aw_iconst (pc' := 59) (v := 0) eX7_isAnotherTwin_58 rfl (by decide) ?_
              refine aw_istore_n (pc' := 60) eX7_isAnotherTwin_59 rfl (by decide) ?_
              dsimp only [zst, zst2, zcut]
              refine aw_iinc (pc' := 63) eX7_isAnotherTwin_60 rfl rfl rfl (by decide) ?_
              dsimp only [zst, zst2, zcut]
              refine aw_goto eX7_isAnotherTwin_63 (by decide) (tgt := 4) ?_
              simp only [zb_eq0, Bool.not_eq_false, Bool.not_eq_true, decide_eq_true_eq, decide_eq_false_iff_not, Decidable.not_not] at c_16
              have g21 := (nI_ne (by omega) (by omega)).mp c_21
              have c_31 := (c_31 : _)
              have c_42 := (c_42 : _)
              refine ih (m - (k + 1)) (by omega) (k + 1) _ _ rfl (by omega) (nI_inc k) ?_
              first | (simp [sTwin, zb, c_16, g21, c_31, c_42]; done) | (simp_all [sTwin, zb]; done)
            · refine aw_aload_n (pc' := 46) eX7_isAnotherTwin_45 rfl rfl trivial ?_
              refine aw_iload_n (pc' := 47) eX7_isAnotherTwin_46 rfl rfl ?_
              refine aw_iconst (pc' := 48) (v := 1) eX7_isAnotherTwin_47 rfl (by decide) ?_
              refine aw_callv (pc' := 51) (nn := 2) (c_isAs (d := d - 1) hM k 1 (by omega) (by omega)) eX7_isAnotherTwin_48 rfl ⟨q957, q960, q62⟩ q959 q36 ⟨rfl, by decide +kernel, by decide +kernel, by decide +kernel⟩ rfl (by rw [hM.2.1]; exact ⟨rfl, rfl⟩) rfl ⟨by omega, by decide⟩ ⟨by omega, by omega⟩ rfl (Nat.le_of_ble_eq_true rfl) (fun v10 h11 hq12 => ?_)
              obtain ⟨rfl, rfl⟩ := hq12
              dsimp only [Option.toList, List.cons_append, List.nil_append]
              refine aw_if_eq (pc' := 54) (tgt := 58) eX7_isAnotherTwin_51 rfl (by decide) (fun c_51 => ?_) (fun c_51 => ?_)
              · refine aw_iconst (pc' := 59) (v := 0) eX7_isAnotherTwin_58 rfl (by decide) ?_
                refine aw_istore_n (pc' := 60) eX7_isAnotherTwin_59 rfl (by decide) ?_
                dsimp only [zst, zst2, zcut]
                refine aw_iinc (pc' := 63) eX7_isAnotherTwin_60 rfl rfl rfl (by decide) ?_
                dsimp only [zst, zst2, zcut]
                refine aw_goto eX7_isAnotherTwin_63 (by decide) (tgt := 4) ?_
                simp only [zb_eq0, Bool.not_eq_false, Bool.not_eq_true, decide_eq_true_eq, decide_eq_false_iff_not, Decidable.not_not] at c_16
                have g21 := (nI_ne (by omega) (by omega)).mp c_21
                have c_31 := (c_31 : _)
                have c_42 := (c_42 : _)
                simp only [zb_eq0, Bool.not_eq_false, Bool.not_eq_true, decide_eq_true_eq, decide_eq_false_iff_not, Decidable.not_not] at c_51
                refine ih (m - (k + 1)) (by omega) (k + 1) _ _ rfl (by omega) (nI_inc k) ?_
                first | (simp [sTwin, zb, c_16, g21, c_31, c_42, c_51]; done) | (simp_all [sTwin, zb]; done)
              · refine aw_iconst (pc' := 55) (v := 1) eX7_isAnotherTwin_54 rfl (by decide) ?_
                refine aw_goto eX7_isAnotherTwin_55 (by decide) (tgt := 59) ?_
                refine aw_istore_n (pc' := 60) eX7_isAnotherTwin_59 rfl (by decide) ?_
                dsimp only [zst, zst2, zcut]
                refine aw_iinc (pc' := 63) eX7_isAnotherTwin_60 rfl rfl rfl (by decide) ?_
                dsimp only [zst, zst2, zcut]
                refine aw_goto eX7_isAnotherTwin_63 (by decide) (tgt := 4) ?_
                simp only [zb_eq0, Bool.not_eq_false, Bool.not_eq_true, decide_eq_true_eq, decide_eq_false_iff_not, Decidable.not_not] at c_16
                have g21 := (nI_ne (by omega) (by omega)).mp c_21
                have c_31 := (c_31 : _)
                have c_42 := (c_42 : _)
                simp only [zb_eq0, Bool.not_eq_false, Bool.not_eq_true, decide_eq_true_eq, decide_eq_false_iff_not, Decidable.not_not] at c_51
                refine ih (m - (k + 1)) (by omega) (k + 1) _ _ rfl (by omega) (nI_inc k) ?_
                first | (simp [sTwin, zb, c_16, g21, c_31, c_42, c_51]; done) | (simp_all [sTwin, zb]; done)
theorem c_X7_isAnotherTwin (hM : MAt h u U) (hm : U.1 1 60 = nI m) (hm6 : m ≤ 6) {i : Nat} (hi : i < 6) (hd : 2 ≤ d) : Ct l G mX7_isAnotherTwin yX7_isAnotherTwin d 0 0 [.ref u, .int (nI i)] h (fun r h' => r = some (.int (zb (sTwin (U.1 1) i m))) ∧ h' = h) := by
  refine ct_of (lv := [some (.ref u), some (.int (nI i)), none, none]) (by decide +kernel) rfl (fun z => by cases z) (fun _ => rfl) (fun _ => Nat.le_of_ble_eq_true rfl) ?_
  refine aw_iconst (pc' := 1) (v := 0) eX7_isAnotherTwin_0 rfl (by decide) ?_
  refine aw_istore_n (pc' := 2) eX7_isAnotherTwin_1 rfl (by decide) ?_
  dsimp only [zst, zst2, zcut]
  refine aw_iconst (pc' := 3) (v := 0) eX7_isAnotherTwin_2 rfl (by decide) ?_
  refine aw_istore_n (pc' := 4) eX7_isAnotherTwin_3 rfl (by decide) ?_
  dsimp only [zst, zst2, zcut]
  exact lp_X7_isAnotherTwin hM hm hm6 hi hd ⟨rfl, rfl⟩ m 0 _ _ (by omega) (by omega) rfl rfl
abbrev mX7_load : MT := (RX7, cX7_load, 3, (some .int), false)
theorem eX7_load_0 : decode mX7_load.2.1 0 = .ok (.aload_n 0, 1) := by decide +kernel
theorem eX7_load_1 : decode mX7_load.2.1 1 = .ok (.iload_n 1, 1) := by decide +kernel
theorem eX7_load_2 : decode mX7_load.2.1 2 = .ok (.invokevirtual 180, 3) := by decide +kernel
theorem eX7_load_5 : decode mX7_load.2.1 5 = .ok (.aload_n 0, 1) := by decide +kernel
theorem eX7_load_6 : decode mX7_load.2.1 6 = .ok (.getfield 168, 3) := by decide +kernel
theorem eX7_load_9 : decode mX7_load.2.1 9 = .ok (.aload_n 0, 1) := by decide +kernel
theorem eX7_load_10 : decode mX7_load.2.1 10 = .ok (.iload_n 1, 1) := by decide +kernel
theorem eX7_load_11 : decode mX7_load.2.1 11 = .ok (.invokevirtual 183, 3) := by decide +kernel
theorem eX7_load_14 : decode mX7_load.2.1 14 = .ok (.ifCond .eq 7, 3) := by decide +kernel
theorem eX7_load_17 : decode mX7_load.2.1 17 = .ok (.iconst 5, 1) := by decide +kernel
theorem eX7_load_18 : decode mX7_load.2.1 18 = .ok (.goto 4, 3) := by decide +kernel
theorem eX7_load_21 : decode mX7_load.2.1 21 = .ok (.iconst 0, 1) := by decide +kernel
theorem eX7_load_22 : decode mX7_load.2.1 22 = .ok (.iadd, 1) := by decide +kernel
theorem eX7_load_23 : decode mX7_load.2.1 23 = .ok (.istore_n 2, 1) := by decide +kernel
theorem eX7_load_24 : decode mX7_load.2.1 24 = .ok (.aload_n 0, 1) := by decide +kernel
theorem eX7_load_25 : decode mX7_load.2.1 25 = .ok (.iload_n 1, 1) := by decide +kernel
theorem eX7_load_26 : decode mX7_load.2.1 26 = .ok (.iconst 0, 1) := by decide +kernel
theorem eX7_load_27 : decode mX7_load.2.1 27 = .ok (.invokevirtual 84, 3) := by decide +kernel
theorem eX7_load_30 : decode mX7_load.2.1 30 = .ok (.tableswitch 129 1 6 #[38, 50, 57, 59, 90, 109], 38) := by decide +kernel
theorem eX7_load_68 : decode mX7_load.2.1 68 = .ok (.aload_n 0, 1) := by decide +kernel
theorem eX7_load_69 : decode mX7_load.2.1 69 = .ok (.getfield 168, 3) := by decide +kernel
theorem eX7_load_72 : decode mX7_load.2.1 72 = .ok (.aload_n 0, 1) := by decide +kernel
theorem eX7_load_73 : decode mX7_load.2.1 73 = .ok (.iload_n 1, 1) := by decide +kernel
theorem eX7_load_74 : decode mX7_load.2.1 74 = .ok (.iconst 1, 1) := by decide +kernel
theorem eX7_load_75 : decode mX7_load.2.1 75 = .ok (.invokevirtual 84, 3) := by decide +kernel
theorem eX7_load_78 : decode mX7_load.2.1 78 = .ok (.iadd, 1) := by decide +kernel
theorem eX7_load_79 : decode mX7_load.2.1 79 = .ok (.ireturn, 1) := by decide +kernel
theorem eX7_load_80 : decode mX7_load.2.1 80 = .ok (.aload_n 0, 1) := by decide +kernel
theorem eX7_load_81 : decode mX7_load.2.1 81 = .ok (.getfield 168, 3) := by decide +kernel
theorem eX7_load_84 : decode mX7_load.2.1 84 = .ok (.iconst 2, 1) := by decide +kernel
theorem eX7_load_85 : decode mX7_load.2.1 85 = .ok (.idiv, 1) := by decide +kernel
theorem eX7_load_86 : decode mX7_load.2.1 86 = .ok (.ireturn, 1) := by decide +kernel
theorem eX7_load_87 : decode mX7_load.2.1 87 = .ok (.iload_n 2, 1) := by decide +kernel
theorem eX7_load_88 : decode mX7_load.2.1 88 = .ok (.ireturn, 1) := by decide +kernel
theorem eX7_load_89 : decode mX7_load.2.1 89 = .ok (.aload_n 0, 1) := by decide +kernel
theorem eX7_load_90 : decode mX7_load.2.1 90 = .ok (.iload_n 1, 1) := by decide +kernel
theorem eX7_load_91 : decode mX7_load.2.1 91 = .ok (.iconst 4, 1) := by decide +kernel
theorem eX7_load_92 : decode mX7_load.2.1 92 = .ok (.invokevirtual 84, 3) := by decide +kernel
theorem eX7_load_95 : decode mX7_load.2.1 95 = .ok (.aload_n 0, 1) := by decide +kernel
theorem eX7_load_96 : decode mX7_load.2.1 96 = .ok (.iload_n 1, 1) := by decide +kernel
theorem eX7_load_97 : decode mX7_load.2.1 97 = .ok (.iconst 1, 1) := by decide +kernel
theorem eX7_load_98 : decode mX7_load.2.1 98 = .ok (.invokevirtual 84, 3) := by decide +kernel
theorem eX7_load_101 : decode mX7_load.2.1 101 = .ok (.if_icmp .ge 7, 3) := by decide +kernel
theorem eX7_load_104 : decode mX7_load.2.1 104 = .ok (.iconst 0, 1) := by decide +kernel
theorem eX7_load_105 : decode mX7_load.2.1 105 = .ok (.goto 14, 3) := by decide +kernel
theorem eX7_load_108 : decode mX7_load.2.1 108 = .ok (.aload_n 0, 1) := by decide +kernel
theorem eX7_load_109 : decode mX7_load.2.1 109 = .ok (.getfield 168, 3) := by decide +kernel
theorem eX7_load_112 : decode mX7_load.2.1 112 = .ok (.aload_n 0, 1) := by decide +kernel
theorem eX7_load_113 : decode mX7_load.2.1 113 = .ok (.iload_n 1, 1) := by decide +kernel
theorem eX7_load_114 : decode mX7_load.2.1 114 = .ok (.iconst 1, 1) := by decide +kernel
theorem eX7_load_115 : decode mX7_load.2.1 115 = .ok (.invokevirtual 84, 3) := by decide +kernel
theorem eX7_load_118 : decode mX7_load.2.1 118 = .ok (.iadd, 1) := by decide +kernel
theorem eX7_load_119 : decode mX7_load.2.1 119 = .ok (.ireturn, 1) := by decide +kernel
theorem eX7_load_120 : decode mX7_load.2.1 120 = .ok (.aload_n 0, 1) := by decide +kernel
theorem eX7_load_121 : decode mX7_load.2.1 121 = .ok (.getfield 168, 3) := by decide +kernel
theorem eX7_load_124 : decode mX7_load.2.1 124 = .ok (.iconst 2, 1) := by decide +kernel
theorem eX7_load_125 : decode mX7_load.2.1 125 = .ok (.idiv, 1) := by decide +kernel
theorem eX7_load_126 : decode mX7_load.2.1 126 = .ok (.bipush 9, 2) := by decide +kernel
theorem eX7_load_128 : decode mX7_load.2.1 128 = .ok (.aload_n 0, 1) := by decide +kernel
theorem eX7_load_129 : decode mX7_load.2.1 129 = .ok (.iload_n 1, 1) := by decide +kernel
theorem eX7_load_130 : decode mX7_load.2.1 130 = .ok (.iconst 4, 1) := by decide +kernel
theorem eX7_load_131 : decode mX7_load.2.1 131 = .ok (.invokevirtual 84, 3) := by decide +kernel
theorem eX7_load_134 : decode mX7_load.2.1 134 = .ok (.invokestatic 186, 3) := by decide +kernel
theorem eX7_load_137 : decode mX7_load.2.1 137 = .ok (.iadd, 1) := by decide +kernel
theorem eX7_load_138 : decode mX7_load.2.1 138 = .ok (.ireturn, 1) := by decide +kernel
theorem eX7_load_139 : decode mX7_load.2.1 139 = .ok (.iload_n 2, 1) := by decide +kernel
theorem eX7_load_140 : decode mX7_load.2.1 140 = .ok (.aload_n 0, 1) := by decide +kernel
theorem eX7_load_141 : decode mX7_load.2.1 141 = .ok (.iload_n 1, 1) := by decide +kernel
theorem eX7_load_142 : decode mX7_load.2.1 142 = .ok (.bipush 6, 2) := by decide +kernel
theorem eX7_load_144 : decode mX7_load.2.1 144 = .ok (.aload_n 0, 1) := by decide +kernel
theorem eX7_load_145 : decode mX7_load.2.1 145 = .ok (.getfield 15, 3) := by decide +kernel
theorem eX7_load_148 : decode mX7_load.2.1 148 = .ok (.bipush 67, 2) := by decide +kernel
theorem eX7_load_150 : decode mX7_load.2.1 150 = .ok (.iaload, 1) := by decide +kernel
theorem eX7_load_151 : decode mX7_load.2.1 151 = .ok (.iconst 4, 1) := by decide +kernel
theorem eX7_load_152 : decode mX7_load.2.1 152 = .ok (.irem, 1) := by decide +kernel
theorem eX7_load_153 : decode mX7_load.2.1 153 = .ok (.iadd, 1) := by decide +kernel
theorem eX7_load_154 : decode mX7_load.2.1 154 = .ok (.invokevirtual 84, 3) := by decide +kernel
theorem eX7_load_157 : decode mX7_load.2.1 157 = .ok (.iadd, 1) := by decide +kernel
theorem eX7_load_158 : decode mX7_load.2.1 158 = .ok (.ireturn, 1) := by decide +kernel
theorem eX7_load_159 : decode mX7_load.2.1 159 = .ok (.aload_n 0, 1) := by decide +kernel
theorem eX7_load_160 : decode mX7_load.2.1 160 = .ok (.getfield 168, 3) := by decide +kernel
theorem eX7_load_163 : decode mX7_load.2.1 163 = .ok (.ireturn, 1) := by decide +kernel
theorem c_X7_load (hk : MK n g U U1) (hM : MAt h u U1) (hz : mZ U) (hg : gOk g m t) {i : Nat} (hi : i < 6) (hd : 21 ≤ d) : Ct l G mX7_load yX7_load d 0 0 [.ref u, .int (nI i)] h (fun r h' => r = some (.int (lod (mRd U) g m t i)) ∧ ∃ U', MAt h' u U' ∧ MK n g U U' ∧ Same u 19 h h') := by
  refine ct_of (lv := [some (.ref u), some (.int (nI i)), none]) (by decide +kernel) rfl (fun z => by cases z) (fun _ => rfl) (fun _ => Nat.le_of_ble_eq_true rfl) ?_
  have e := hk.1
  subst e
  obtain ⟨hm, hm6, ht, ht2, hgq⟩ := hg
  refine aw_aload_n (pc' := 1) eX7_load_0 rfl rfl trivial ?_
  refine aw_iload_n (pc' := 2) eX7_load_1 rfl rfl ?_
  refine aw_callv (pc' := 5) (nn := 1) (c_X7_readFor (d := d - 1) hM (i := i) (by omega) (hz.k hk) hgq (by omega)) eX7_load_2 rfl ⟨q909, q912, q62⟩ q911 q24 ⟨rfl, by decide +kernel, by decide +kernel, by decide +kernel⟩ rfl (by rw [hM.2.1]; exact ⟨rfl, rfl⟩) rfl ⟨by omega, by decide⟩ ⟨by omega, by omega⟩ rfl (Nat.le_of_ble_eq_true rfl) (fun v3 h4 hq5 => ?_)
  obtain ⟨rfl, U2, hM1, k2, e14, e15, hs2⟩ := hq5
  dsimp only [Option.toList, List.cons_append, List.nil_append]
  refine aw_aload_n (pc' := 6) eX7_load_5 rfl rfl trivial ?_
  refine aw_Mint (pc' := 9) (kf := 14) hM1 eX7_load_6 rfl (by decide) q803 ?_
  refine aw_aload_n (pc' := 10) eX7_load_9 rfl rfl trivial ?_
  refine aw_iload_n (pc' := 11) eX7_load_10 rfl rfl ?_
  refine aw_callv (pc' := 14) (nn := 1) (c_X7_isAnotherTwin (d := d - 1) hM1 (m := m) (i := i) (by rw [k2.1]; exact hm) hm6 hi (by omega)) eX7_load_11 rfl ⟨q953, q956, q62⟩ q955 q35 ⟨rfl, by decide +kernel, by decide +kernel, by decide +kernel⟩ rfl (by rw [hM1.2.1]; exact ⟨rfl, rfl⟩) rfl ⟨by omega, by decide⟩ ⟨by omega, by omega⟩ rfl (Nat.le_of_ble_eq_true rfl) (fun v6 h7 hq8 => ?_)
  obtain ⟨rfl, rfl⟩ := hq8
  dsimp only [Option.toList, List.cons_append, List.nil_append]
  refine aw_if_eq (pc' := 17) (tgt := 21) eX7_load_14 rfl (by decide) (fun c_14 => ?_) (fun c_14 => ?_)
  · refine aw_iconst (pc' := 22) (v := 0) eX7_load_21 rfl (by decide) ?_
    refine aw_iadd (pc' := 23) eX7_load_22 rfl ?_
    refine aw_istore_n (pc' := 24) eX7_load_23 rfl (by decide) ?_
    dsimp only [zst, zst2, zcut]
    refine aw_aload_n (pc' := 25) eX7_load_24 rfl rfl trivial ?_
    refine aw_iload_n (pc' := 26) eX7_load_25 rfl rfl ?_
    refine aw_iconst (pc' := 27) (v := 0) eX7_load_26 rfl (by decide) ?_
    refine aw_callv (pc' := 30) (nn := 2) (c_one (d := d - 1) hM1 i 0 (by omega) (by omega)) eX7_load_27 rfl ⟨q901, q904, q62⟩ q903 q22 ⟨rfl, by decide +kernel, by decide +kernel, by decide +kernel⟩ rfl (by rw [hM1.2.1]; exact ⟨rfl, rfl⟩) rfl ⟨by omega, by decide⟩ ⟨by omega, by omega⟩ rfl (Nat.le_of_ble_eq_true rfl) (fun v9 h10 hq11 => ?_)
    obtain ⟨rfl, rfl⟩ := hq11
    dsimp only [Option.toList, List.cons_append, List.nil_append]
    refine aw_tsw (v := 1) (tgt := 68) eX7_load_30 (by decide) (by decide) rfl (by decide) (fun c_30 => ?_) (fun n_30_0 => ?_)
    · refine aw_aload_n (pc' := 69) eX7_load_68 rfl rfl trivial ?_
      refine aw_Mint (pc' := 72) (kf := 14) hM1 eX7_load_69 rfl (by decide) q803 ?_
      refine aw_aload_n (pc' := 73) eX7_load_72 rfl rfl trivial ?_
      refine aw_iload_n (pc' := 74) eX7_load_73 rfl rfl ?_
      refine aw_iconst (pc' := 75) (v := 1) eX7_load_74 rfl (by decide) ?_
      refine aw_callv (pc' := 78) (nn := 2) (c_one (d := d - 1) hM1 i 1 (by omega) (by omega)) eX7_load_75 rfl ⟨q901, q904, q62⟩ q903 q22 ⟨rfl, by decide +kernel, by decide +kernel, by decide +kernel⟩ rfl (by rw [hM1.2.1]; exact ⟨rfl, rfl⟩) rfl ⟨by omega, by decide⟩ ⟨by omega, by omega⟩ rfl (Nat.le_of_ble_eq_true rfl) (fun v12 h13 hq14 => ?_)
      obtain ⟨rfl, rfl⟩ := hq14
      dsimp only [Option.toList, List.cons_append, List.nil_append]
      refine aw_iadd (pc' := 79) eX7_load_78 rfl ?_
      refine aw_ret (v := some (.int _)) eX7_load_79 ⟨rfl, rfl⟩ (by omega) (by omega) rfl ?_
      simp only [zb_eq0, Bool.not_eq_false, Bool.not_eq_true, decide_eq_true_eq, decide_eq_false_iff_not, Decidable.not_not, k2.1] at c_14
      simp only [k2.1, Nat.add_zero] at c_30
      refine ⟨?_, U2, hM1, hk.tr (k2.le (Nat.zero_le n)), hs2⟩
      try simp only [e14, k2.1, mRd_k hk]
      simp [lod, sLoad, c_14, c_30]
    refine aw_tsw (v := 2) (tgt := 80) eX7_load_30 (by decide) (by decide) rfl (by decide) (fun c_30 => ?_) (fun n_30_1 => ?_)
    · refine aw_aload_n (pc' := 81) eX7_load_80 rfl rfl trivial ?_
      refine aw_Mint (pc' := 84) (kf := 14) hM1 eX7_load_81 rfl (by decide) q803 ?_
      refine aw_iconst (pc' := 85) (v := 2) eX7_load_84 rfl (by decide) ?_
      refine aw_idiv (pc' := 86) eX7_load_85 rfl (by decide) ?_
      refine aw_ret (v := some (.int _)) eX7_load_86 ⟨rfl, rfl⟩ (by omega) (by omega) rfl ?_
      simp only [zb_eq0, Bool.not_eq_false, Bool.not_eq_true, decide_eq_true_eq, decide_eq_false_iff_not, Decidable.not_not, k2.1] at c_14
      simp only [k2.1, Nat.add_zero] at c_30
      simp only [k2.1, Nat.add_zero] at n_30_0
      refine ⟨?_, U2, hM1, hk.tr (k2.le (Nat.zero_le n)), hs2⟩
      try simp only [e14, k2.1, mRd_k hk]
      simp [lod, sLoad, c_14, c_30, n_30_0]
    refine aw_tsw (v := 3) (tgt := 87) eX7_load_30 (by decide) (by decide) rfl (by decide) (fun c_30 => ?_) (fun n_30_2 => ?_)
    · refine aw_iload_n (pc' := 88) eX7_load_87 rfl rfl ?_
      refine aw_ret (v := some (.int _)) eX7_load_88 ⟨rfl, rfl⟩ (by omega) (by omega) rfl ?_
      simp only [zb_eq0, Bool.not_eq_false, Bool.not_eq_true, decide_eq_true_eq, decide_eq_false_iff_not, Decidable.not_not, k2.1] at c_14
      simp only [k2.1, Nat.add_zero] at c_30
      simp only [k2.1, Nat.add_zero] at n_30_0
      simp only [k2.1, Nat.add_zero] at n_30_1
      refine ⟨?_, U2, hM1, hk.tr (k2.le (Nat.zero_le n)), hs2⟩
      try simp only [e14, k2.1, mRd_k hk]
      simp [lod, sLoad, c_14, c_30, n_30_0, n_30_1]
    refine aw_tsw (v := 4) (tgt := 89) eX7_load_30 (by decide) (by decide) rfl (by decide) (fun c_30 => ?_) (fun n_30_3 => ?_)
    · refine aw_aload_n (pc' := 90) eX7_load_89 rfl rfl trivial ?_
      refine aw_iload_n (pc' := 91) eX7_load_90 rfl rfl ?_
      refine aw_iconst (pc' := 92) (v := 4) eX7_load_91 rfl (by decide) ?_
      refine aw_callv (pc' := 95) (nn := 2) (c_one (d := d - 1) hM1 i 4 (by omega) (by omega)) eX7_load_92 rfl ⟨q901, q904, q62⟩ q903 q22 ⟨rfl, by decide +kernel, by decide +kernel, by decide +kernel⟩ rfl (by rw [hM1.2.1]; exact ⟨rfl, rfl⟩) rfl ⟨by omega, by decide⟩ ⟨by omega, by omega⟩ rfl (Nat.le_of_ble_eq_true rfl) (fun v15 h16 hq17 => ?_)
      obtain ⟨rfl, rfl⟩ := hq17
      dsimp only [Option.toList, List.cons_append, List.nil_append]
      refine aw_aload_n (pc' := 96) eX7_load_95 rfl rfl trivial ?_
      refine aw_iload_n (pc' := 97) eX7_load_96 rfl rfl ?_
      refine aw_iconst (pc' := 98) (v := 1) eX7_load_97 rfl (by decide) ?_
      refine aw_callv (pc' := 101) (nn := 2) (c_one (d := d - 1) hM1 i 1 (by omega) (by omega)) eX7_load_98 rfl ⟨q901, q904, q62⟩ q903 q22 ⟨rfl, by decide +kernel, by decide +kernel, by decide +kernel⟩ rfl (by rw [hM1.2.1]; exact ⟨rfl, rfl⟩) rfl ⟨by omega, by decide⟩ ⟨by omega, by omega⟩ rfl (Nat.le_of_ble_eq_true rfl) (fun v18 h19 hq20 => ?_)
      obtain ⟨rfl, rfl⟩ := hq20
      dsimp only [Option.toList, List.cons_append, List.nil_append]
      refine aw_icmp_ge (pc' := 104) (tgt := 108) eX7_load_101 rfl (by decide) (fun c_101 => ?_) (fun c_101 => ?_)
      · refine aw_aload_n (pc' := 109) eX7_load_108 rfl rfl trivial ?_
        refine aw_Mint (pc' := 112) (kf := 14) hM1 eX7_load_109 rfl (by decide) q803 ?_
        refine aw_aload_n (pc' := 113) eX7_load_112 rfl rfl trivial ?_
        refine aw_iload_n (pc' := 114) eX7_load_113 rfl rfl ?_
        refine aw_iconst (pc' := 115) (v := 1) eX7_load_114 rfl (by decide) ?_
        refine aw_callv (pc' := 118) (nn := 2) (c_one (d := d - 1) hM1 i 1 (by omega) (by omega)) eX7_load_115 rfl ⟨q901, q904, q62⟩ q903 q22 ⟨rfl, by decide +kernel, by decide +kernel, by decide +kernel⟩ rfl (by rw [hM1.2.1]; exact ⟨rfl, rfl⟩) rfl ⟨by omega, by decide⟩ ⟨by omega, by omega⟩ rfl (Nat.le_of_ble_eq_true rfl) (fun v21 h22 hq23 => ?_)
        obtain ⟨rfl, rfl⟩ := hq23
        dsimp only [Option.toList, List.cons_append, List.nil_append]
        refine aw_iadd (pc' := 119) eX7_load_118 rfl ?_
        refine aw_ret (v := some (.int _)) eX7_load_119 ⟨rfl, rfl⟩ (by omega) (by omega) rfl ?_
        simp only [zb_eq0, Bool.not_eq_false, Bool.not_eq_true, decide_eq_true_eq, decide_eq_false_iff_not, Decidable.not_not, k2.1] at c_14
        simp only [k2.1, Nat.add_zero] at c_30
        simp only [k2.1, Nat.add_zero] at c_101
        simp only [k2.1, Nat.add_zero] at n_30_0
        simp only [k2.1, Nat.add_zero] at n_30_1
        simp only [k2.1, Nat.add_zero] at n_30_2
        refine ⟨?_, U2, hM1, hk.tr (k2.le (Nat.zero_le n)), hs2⟩
        try simp only [e14, k2.1, mRd_k hk]
        simp [lod, sLoad, c_14, c_30, c_101, n_30_0, n_30_1, n_30_2]
        try exact fun z => absurd z (Int32.not_lt.mpr c_101)
        try exact fun z => absurd (Int32.not_le.mp c_101) (Int32.not_lt.mpr z)
        try exact fun z => absurd z c_101
      · refine aw_iconst (pc' := 105) (v := 0) eX7_load_104 rfl (by decide) ?_
        refine aw_goto eX7_load_105 (by decide) (tgt := 119) ?_
        refine aw_ret (v := some (.int _)) eX7_load_119 ⟨rfl, rfl⟩ (by omega) (by omega) rfl ?_
        simp only [zb_eq0, Bool.not_eq_false, Bool.not_eq_true, decide_eq_true_eq, decide_eq_false_iff_not, Decidable.not_not, k2.1] at c_14
        simp only [k2.1, Nat.add_zero] at c_30
        simp only [k2.1, Nat.add_zero] at c_101
        simp only [k2.1, Nat.add_zero] at n_30_0
        simp only [k2.1, Nat.add_zero] at n_30_1
        simp only [k2.1, Nat.add_zero] at n_30_2
        refine ⟨?_, U2, hM1, hk.tr (k2.le (Nat.zero_le n)), hs2⟩
        try simp only [e14, k2.1, mRd_k hk]
        simp [lod, sLoad, c_14, c_30, c_101, n_30_0, n_30_1, n_30_2]
        try exact fun z => absurd z (Int32.not_lt.mpr c_101)
        try exact fun z => absurd (Int32.not_le.mp c_101) (Int32.not_lt.mpr z)
        try exact fun z => absurd z c_101
    refine aw_tsw (v := 5) (tgt := 120) eX7_load_30 (by decide) (by decide) rfl (by decide) (fun c_30 => ?_) (fun n_30_4 => ?_)
    · refine aw_aload_n (pc' := 121) eX7_load_120 rfl rfl trivial ?_
      refine aw_Mint (pc' := 124) (kf := 14) hM1 eX7_load_121 rfl (by decide) q803 ?_
      refine aw_iconst (pc' := 125) (v := 2) eX7_load_124 rfl (by decide) ?_
      refine aw_idiv (pc' := 126) eX7_load_125 rfl (by decide) ?_
      refine aw_bipush (pc' := 128) (v := 9) eX7_load_126 rfl (by decide) ?_
      refine aw_aload_n (pc' := 129) eX7_load_128 rfl rfl trivial ?_
      refine aw_iload_n (pc' := 130) eX7_load_129 rfl rfl ?_
      refine aw_iconst (pc' := 131) (v := 4) eX7_load_130 rfl (by decide) ?_
      refine aw_callv (pc' := 134) (nn := 2) (c_one (d := d - 1) hM1 i 4 (by omega) (by omega)) eX7_load_131 rfl ⟨q901, q904, q62⟩ q903 q22 ⟨rfl, by decide +kernel, by decide +kernel, by decide +kernel⟩ rfl (by rw [hM1.2.1]; exact ⟨rfl, rfl⟩) rfl ⟨by omega, by decide⟩ ⟨by omega, by omega⟩ rfl (Nat.le_of_ble_eq_true rfl) (fun v24 h25 hq26 => ?_)
      obtain ⟨rfl, rfl⟩ := hq26
      dsimp only [Option.toList, List.cons_append, List.nil_append]
      refine aw_mmin (pc' := 137) eX7_load_134 rfl q961 q326 q63 q327 (by omega) ⟨by omega, by omega⟩ (Nat.le_of_ble_eq_true rfl) ?_
      refine aw_iadd (pc' := 138) eX7_load_137 rfl ?_
      refine aw_ret (v := some (.int _)) eX7_load_138 ⟨rfl, rfl⟩ (by omega) (by omega) rfl ?_
      simp only [zb_eq0, Bool.not_eq_false, Bool.not_eq_true, decide_eq_true_eq, decide_eq_false_iff_not, Decidable.not_not, k2.1] at c_14
      simp only [k2.1, Nat.add_zero] at c_30
      simp only [k2.1, Nat.add_zero] at n_30_0
      simp only [k2.1, Nat.add_zero] at n_30_1
      simp only [k2.1, Nat.add_zero] at n_30_2
      simp only [k2.1, Nat.add_zero] at n_30_3
      refine ⟨?_, U2, hM1, hk.tr (k2.le (Nat.zero_le n)), hs2⟩
      try simp only [e14, k2.1, mRd_k hk]
      simp [lod, sLoad, c_14, c_30, n_30_0, n_30_1, n_30_2, n_30_3]
    refine aw_tsw (v := 6) (tgt := 139) eX7_load_30 (by decide) (by decide) rfl (by decide) (fun c_30 => ?_) (fun n_30_5 => ?_)
    · refine aw_iload_n (pc' := 140) eX7_load_139 rfl rfl ?_
      refine aw_aload_n (pc' := 141) eX7_load_140 rfl rfl trivial ?_
      refine aw_iload_n (pc' := 142) eX7_load_141 rfl rfl ?_
      refine aw_bipush (pc' := 144) (v := 6) eX7_load_142 rfl (by decide) ?_
      refine aw_aload_n (pc' := 145) eX7_load_144 rfl rfl trivial ?_
      refine aw_Mref (pc' := 148) (kf := 0) 1 hM1 eX7_load_145 rfl (by decide) rfl q789 ?_
      refine aw_bipush (pc' := 150) (v := 67) eX7_load_148 rfl (by decide) ?_
      refine aw_MaldC (pc' := 151) 1 67 hM1 eX7_load_150 rfl (by decide) (by unfold vp_in; decide) (by decide) ?_
      refine aw_iconst (pc' := 152) (v := 4) eX7_load_151 rfl (by decide) ?_
      refine aw_irem (pc' := 153) eX7_load_152 rfl (by decide) ?_
      have e4 : U2.1 1 67 - U2.1 1 67 / 4 * 4 = nI (t % 4) := by rw [k2.1, ht]; exact pk_rem (d := 4) (by omega) (by omega) (by omega)
      rw [e4]
      refine aw_iadd (pc' := 154) eX7_load_153 rfl ?_
      rw [show (6 : Int32) + nI (t % 4) = nI (6 + t % 4) from nI_add 6 _]
      refine aw_callv (pc' := 157) (nn := 2) (c_one (d := d - 1) hM1 i (6 + t % 4) (by omega) (by omega)) eX7_load_154 rfl ⟨q901, q904, q62⟩ q903 q22 ⟨rfl, by decide +kernel, by decide +kernel, by decide +kernel⟩ rfl (by rw [hM1.2.1]; exact ⟨rfl, rfl⟩) rfl ⟨by omega, by decide⟩ ⟨by omega, by omega⟩ rfl (Nat.le_of_ble_eq_true rfl) (fun v27 h28 hq29 => ?_)
      obtain ⟨rfl, rfl⟩ := hq29
      dsimp only [Option.toList, List.cons_append, List.nil_append]
      refine aw_iadd (pc' := 158) eX7_load_157 rfl ?_
      refine aw_ret (v := some (.int _)) eX7_load_158 ⟨rfl, rfl⟩ (by omega) (by omega) rfl ?_
      simp only [zb_eq0, Bool.not_eq_false, Bool.not_eq_true, decide_eq_true_eq, decide_eq_false_iff_not, Decidable.not_not, k2.1] at c_14
      simp only [k2.1, Nat.add_zero] at c_30
      simp only [k2.1, Nat.add_zero] at n_30_0
      simp only [k2.1, Nat.add_zero] at n_30_1
      simp only [k2.1, Nat.add_zero] at n_30_2
      simp only [k2.1, Nat.add_zero] at n_30_3
      simp only [k2.1, Nat.add_zero] at n_30_4
      refine ⟨?_, U2, hM1, hk.tr (k2.le (Nat.zero_le n)), hs2⟩
      try simp only [e14, k2.1, mRd_k hk]
      simp [lod, sLoad, c_14, c_30, n_30_0, n_30_1, n_30_2, n_30_3, n_30_4]
    refine aw_tswo (tgt := 159) eX7_load_30 (by have g0 := zne n_30_0 (show ((1 : Int32)).toInt = 1 by decide); have g1 := zne n_30_1 (show ((2 : Int32)).toInt = 2 by decide); have g2 := zne n_30_2 (show ((3 : Int32)).toInt = 3 by decide); have g3 := zne n_30_3 (show ((4 : Int32)).toInt = 4 by decide); have g4 := zne n_30_4 (show ((5 : Int32)).toInt = 5 by decide); have g5 := zne n_30_5 (show ((6 : Int32)).toInt = 6 by decide); omega) (by decide) ?_
    refine aw_aload_n (pc' := 160) eX7_load_159 rfl rfl trivial ?_
    refine aw_Mint (pc' := 163) (kf := 14) hM1 eX7_load_160 rfl (by decide) q803 ?_
    refine aw_ret (v := some (.int _)) eX7_load_163 ⟨rfl, rfl⟩ (by omega) (by omega) rfl ?_
    simp only [zb_eq0, Bool.not_eq_false, Bool.not_eq_true, decide_eq_true_eq, decide_eq_false_iff_not, Decidable.not_not, k2.1] at c_14
    simp only [k2.1, Nat.add_zero] at n_30_0
    simp only [k2.1, Nat.add_zero] at n_30_1
    simp only [k2.1, Nat.add_zero] at n_30_2
    simp only [k2.1, Nat.add_zero] at n_30_3
    simp only [k2.1, Nat.add_zero] at n_30_4
    simp only [k2.1, Nat.add_zero] at n_30_5
    refine ⟨?_, U2, hM1, hk.tr (k2.le (Nat.zero_le n)), hs2⟩
    try simp only [e14, k2.1, mRd_k hk]
    simp [lod, sLoad, c_14, n_30_0, n_30_1, n_30_2, n_30_3, n_30_4, n_30_5]
  · refine aw_iconst (pc' := 18) (v := 5) eX7_load_17 rfl (by decide) ?_
    refine aw_goto eX7_load_18 (by decide) (tgt := 22) ?_
    refine aw_iadd (pc' := 23) eX7_load_22 rfl ?_
    refine aw_istore_n (pc' := 24) eX7_load_23 rfl (by decide) ?_
    dsimp only [zst, zst2, zcut]
    refine aw_aload_n (pc' := 25) eX7_load_24 rfl rfl trivial ?_
    refine aw_iload_n (pc' := 26) eX7_load_25 rfl rfl ?_
    refine aw_iconst (pc' := 27) (v := 0) eX7_load_26 rfl (by decide) ?_
    refine aw_callv (pc' := 30) (nn := 2) (c_one (d := d - 1) hM1 i 0 (by omega) (by omega)) eX7_load_27 rfl ⟨q901, q904, q62⟩ q903 q22 ⟨rfl, by decide +kernel, by decide +kernel, by decide +kernel⟩ rfl (by rw [hM1.2.1]; exact ⟨rfl, rfl⟩) rfl ⟨by omega, by decide⟩ ⟨by omega, by omega⟩ rfl (Nat.le_of_ble_eq_true rfl) (fun v30 h31 hq32 => ?_)
    obtain ⟨rfl, rfl⟩ := hq32
    dsimp only [Option.toList, List.cons_append, List.nil_append]
    refine aw_tsw (v := 1) (tgt := 68) eX7_load_30 (by decide) (by decide) rfl (by decide) (fun c_30 => ?_) (fun n_30_0 => ?_)
    · refine aw_aload_n (pc' := 69) eX7_load_68 rfl rfl trivial ?_
      refine aw_Mint (pc' := 72) (kf := 14) hM1 eX7_load_69 rfl (by decide) q803 ?_
      refine aw_aload_n (pc' := 73) eX7_load_72 rfl rfl trivial ?_
      refine aw_iload_n (pc' := 74) eX7_load_73 rfl rfl ?_
      refine aw_iconst (pc' := 75) (v := 1) eX7_load_74 rfl (by decide) ?_
      refine aw_callv (pc' := 78) (nn := 2) (c_one (d := d - 1) hM1 i 1 (by omega) (by omega)) eX7_load_75 rfl ⟨q901, q904, q62⟩ q903 q22 ⟨rfl, by decide +kernel, by decide +kernel, by decide +kernel⟩ rfl (by rw [hM1.2.1]; exact ⟨rfl, rfl⟩) rfl ⟨by omega, by decide⟩ ⟨by omega, by omega⟩ rfl (Nat.le_of_ble_eq_true rfl) (fun v33 h34 hq35 => ?_)
      obtain ⟨rfl, rfl⟩ := hq35
      dsimp only [Option.toList, List.cons_append, List.nil_append]
      refine aw_iadd (pc' := 79) eX7_load_78 rfl ?_
      refine aw_ret (v := some (.int _)) eX7_load_79 ⟨rfl, rfl⟩ (by omega) (by omega) rfl ?_
      simp only [zb_eq0, Bool.not_eq_false, Bool.not_eq_true, decide_eq_true_eq, decide_eq_false_iff_not, Decidable.not_not, k2.1] at c_14
      simp only [k2.1, Nat.add_zero] at c_30
      refine ⟨?_, U2, hM1, hk.tr (k2.le (Nat.zero_le n)), hs2⟩
      try simp only [e14, k2.1, mRd_k hk]
      simp [lod, sLoad, c_14, c_30]
    refine aw_tsw (v := 2) (tgt := 80) eX7_load_30 (by decide) (by decide) rfl (by decide) (fun c_30 => ?_) (fun n_30_1 => ?_)
    · refine aw_aload_n (pc' := 81) eX7_load_80 rfl rfl trivial ?_
      refine aw_Mint (pc' := 84) (kf := 14) hM1 eX7_load_81 rfl (by decide) q803 ?_
      refine aw_iconst (pc' := 85) (v := 2) eX7_load_84 rfl (by decide) ?_
      refine aw_idiv (pc' := 86) eX7_load_85 rfl (by decide) ?_
      refine aw_ret (v := some (.int _)) eX7_load_86 ⟨rfl, rfl⟩ (by omega) (by omega) rfl ?_
      simp only [zb_eq0, Bool.not_eq_false, Bool.not_eq_true, decide_eq_true_eq, decide_eq_false_iff_not, Decidable.not_not, k2.1] at c_14
      simp only [k2.1, Nat.add_zero] at c_30
      simp only [k2.1, Nat.add_zero] at n_30_0
      refine ⟨?_, U2, hM1, hk.tr (k2.le (Nat.zero_le n)), hs2⟩
      try simp only [e14, k2.1, mRd_k hk]
      simp [lod, sLoad, c_14, c_30, n_30_0]
    refine aw_tsw (v := 3) (tgt := 87) eX7_load_30 (by decide) (by decide) rfl (by decide) (fun c_30 => ?_) (fun n_30_2 => ?_)
    · refine aw_iload_n (pc' := 88) eX7_load_87 rfl rfl ?_
      refine aw_ret (v := some (.int _)) eX7_load_88 ⟨rfl, rfl⟩ (by omega) (by omega) rfl ?_
      simp only [zb_eq0, Bool.not_eq_false, Bool.not_eq_true, decide_eq_true_eq, decide_eq_false_iff_not, Decidable.not_not, k2.1] at c_14
      simp only [k2.1, Nat.add_zero] at c_30
      simp only [k2.1, Nat.add_zero] at n_30_0
      simp only [k2.1, Nat.add_zero] at n_30_1
      refine ⟨?_, U2, hM1, hk.tr (k2.le (Nat.zero_le n)), hs2⟩
      try simp only [e14, k2.1, mRd_k hk]
      simp [lod, sLoad, c_14, c_30, n_30_0, n_30_1]
    refine aw_tsw (v := 4) (tgt := 89) eX7_load_30 (by decide) (by decide) rfl (by decide) (fun c_30 => ?_) (fun n_30_3 => ?_)
    · refine aw_aload_n (pc' := 90) eX7_load_89 rfl rfl trivial ?_
      refine aw_iload_n (pc' := 91) eX7_load_90 rfl rfl ?_
      refine aw_iconst (pc' := 92) (v := 4) eX7_load_91 rfl (by decide) ?_
      refine aw_callv (pc' := 95) (nn := 2) (c_one (d := d - 1) hM1 i 4 (by omega) (by omega)) eX7_load_92 rfl ⟨q901, q904, q62⟩ q903 q22 ⟨rfl, by decide +kernel, by decide +kernel, by decide +kernel⟩ rfl (by rw [hM1.2.1]; exact ⟨rfl, rfl⟩) rfl ⟨by omega, by decide⟩ ⟨by omega, by omega⟩ rfl (Nat.le_of_ble_eq_true rfl) (fun v36 h37 hq38 => ?_)
      obtain ⟨rfl, rfl⟩ := hq38
      dsimp only [Option.toList, List.cons_append, List.nil_append]
      refine aw_aload_n (pc' := 96) eX7_load_95 rfl rfl trivial ?_
      refine aw_iload_n (pc' := 97) eX7_load_96 rfl rfl ?_
      refine aw_iconst (pc' := 98) (v := 1) eX7_load_97 rfl (by decide) ?_
      refine aw_callv (pc' := 101) (nn := 2) (c_one (d := d - 1) hM1 i 1 (by omega) (by omega)) eX7_load_98 rfl ⟨q901, q904, q62⟩ q903 q22 ⟨rfl, by decide +kernel, by decide +kernel, by decide +kernel⟩ rfl (by rw [hM1.2.1]; exact ⟨rfl, rfl⟩) rfl ⟨by omega, by decide⟩ ⟨by omega, by omega⟩ rfl (Nat.le_of_ble_eq_true rfl) (fun v39 h40 hq41 => ?_)
      obtain ⟨rfl, rfl⟩ := hq41
      dsimp only [Option.toList, List.cons_append, List.nil_append]
      refine aw_icmp_ge (pc' := 104) (tgt := 108) eX7_load_101 rfl (by decide) (fun c_101 => ?_) (fun c_101 => ?_)
      · refine aw_aload_n (pc' := 109) eX7_load_108 rfl rfl trivial ?_
        refine aw_Mint (pc' := 112) (kf := 14) hM1 eX7_load_109 rfl (by decide) q803 ?_
        refine aw_aload_n (pc' := 113) eX7_load_112 rfl rfl trivial ?_
        refine aw_iload_n (pc' := 114) eX7_load_113 rfl rfl ?_
        refine aw_iconst (pc' := 115) (v := 1) eX7_load_114 rfl (by decide) ?_
        refine aw_callv (pc' := 118) (nn := 2) (c_one (d := d - 1) hM1 i 1 (by omega) (by omega)) eX7_load_115 rfl ⟨q901, q904, q62⟩ q903 q22 ⟨rfl, by decide +kernel, by decide +kernel, by decide +kernel⟩ rfl (by rw [hM1.2.1]; exact ⟨rfl, rfl⟩) rfl ⟨by omega, by decide⟩ ⟨by omega, by omega⟩ rfl (Nat.le_of_ble_eq_true rfl) (fun v42 h43 hq44 => ?_)
        obtain ⟨rfl, rfl⟩ := hq44
        dsimp only [Option.toList, List.cons_append, List.nil_append]
        refine aw_iadd (pc' := 119) eX7_load_118 rfl ?_
        refine aw_ret (v := some (.int _)) eX7_load_119 ⟨rfl, rfl⟩ (by omega) (by omega) rfl ?_
        simp only [zb_eq0, Bool.not_eq_false, Bool.not_eq_true, decide_eq_true_eq, decide_eq_false_iff_not, Decidable.not_not, k2.1] at c_14
        simp only [k2.1, Nat.add_zero] at c_30
        simp only [k2.1, Nat.add_zero] at c_101
        simp only [k2.1, Nat.add_zero] at n_30_0
        simp only [k2.1, Nat.add_zero] at n_30_1
        simp only [k2.1, Nat.add_zero] at n_30_2
        refine ⟨?_, U2, hM1, hk.tr (k2.le (Nat.zero_le n)), hs2⟩
        try simp only [e14, k2.1, mRd_k hk]
        simp [lod, sLoad, c_14, c_30, c_101, n_30_0, n_30_1, n_30_2]
        try exact fun z => absurd z (Int32.not_lt.mpr c_101)
        try exact fun z => absurd (Int32.not_le.mp c_101) (Int32.not_lt.mpr z)
        try exact fun z => absurd z c_101
      · refine aw_iconst (pc' := 105) (v := 0) eX7_load_104 rfl (by decide) ?_
        refine aw_goto eX7_load_105 (by decide) (tgt := 119) ?_
        refine aw_ret (v := some (.int _)) eX7_load_119 ⟨rfl, rfl⟩ (by omega) (by omega) rfl ?_
        simp only [zb_eq0, Bool.not_eq_false, Bool.not_eq_true, decide_eq_true_eq, decide_eq_false_iff_not, Decidable.not_not, k2.1] at c_14
        simp only [k2.1, Nat.add_zero] at c_30
        simp only [k2.1, Nat.add_zero] at c_101
        simp only [k2.1, Nat.add_zero] at n_30_0
        simp only [k2.1, Nat.add_zero] at n_30_1
        simp only [k2.1, Nat.add_zero] at n_30_2
        refine ⟨?_, U2, hM1, hk.tr (k2.le (Nat.zero_le n)), hs2⟩
        try simp only [e14, k2.1, mRd_k hk]
        simp [lod, sLoad, c_14, c_30, c_101, n_30_0, n_30_1, n_30_2]
        try exact fun z => absurd z (Int32.not_lt.mpr c_101)
        try exact fun z => absurd (Int32.not_le.mp c_101) (Int32.not_lt.mpr z)
        try exact fun z => absurd z c_101
    refine aw_tsw (v := 5) (tgt := 120) eX7_load_30 (by decide) (by decide) rfl (by decide) (fun c_30 => ?_) (fun n_30_4 => ?_)
    · refine aw_aload_n (pc' := 121) eX7_load_120 rfl rfl trivial ?_
      refine aw_Mint (pc' := 124) (kf := 14) hM1 eX7_load_121 rfl (by decide) q803 ?_
      refine aw_iconst (pc' := 125) (v := 2) eX7_load_124 rfl (by decide) ?_
      refine aw_idiv (pc' := 126) eX7_load_125 rfl (by decide) ?_
      refine aw_bipush (pc' := 128) (v := 9) eX7_load_126 rfl (by decide) ?_
      refine aw_aload_n (pc' := 129) eX7_load_128 rfl rfl trivial ?_
      refine aw_iload_n (pc' := 130) eX7_load_129 rfl rfl ?_
      refine aw_iconst (pc' := 131) (v := 4) eX7_load_130 rfl (by decide) ?_
      refine aw_callv (pc' := 134) (nn := 2) (c_one (d := d - 1) hM1 i 4 (by omega) (by omega)) eX7_load_131 rfl ⟨q901, q904, q62⟩ q903 q22 ⟨rfl, by decide +kernel, by decide +kernel, by decide +kernel⟩ rfl (by rw [hM1.2.1]; exact ⟨rfl, rfl⟩) rfl ⟨by omega, by decide⟩ ⟨by omega, by omega⟩ rfl (Nat.le_of_ble_eq_true rfl) (fun v45 h46 hq47 => ?_)
      obtain ⟨rfl, rfl⟩ := hq47
      dsimp only [Option.toList, List.cons_append, List.nil_append]
      refine aw_mmin (pc' := 137) eX7_load_134 rfl q961 q326 q63 q327 (by omega) ⟨by omega, by omega⟩ (Nat.le_of_ble_eq_true rfl) ?_
      refine aw_iadd (pc' := 138) eX7_load_137 rfl ?_
      refine aw_ret (v := some (.int _)) eX7_load_138 ⟨rfl, rfl⟩ (by omega) (by omega) rfl ?_
      simp only [zb_eq0, Bool.not_eq_false, Bool.not_eq_true, decide_eq_true_eq, decide_eq_false_iff_not, Decidable.not_not, k2.1] at c_14
      simp only [k2.1, Nat.add_zero] at c_30
      simp only [k2.1, Nat.add_zero] at n_30_0
      simp only [k2.1, Nat.add_zero] at n_30_1
      simp only [k2.1, Nat.add_zero] at n_30_2
      simp only [k2.1, Nat.add_zero] at n_30_3
      refine ⟨?_, U2, hM1, hk.tr (k2.le (Nat.zero_le n)), hs2⟩
      try simp only [e14, k2.1, mRd_k hk]
      simp [lod, sLoad, c_14, c_30, n_30_0, n_30_1, n_30_2, n_30_3]
    refine aw_tsw (v := 6) (tgt := 139) eX7_load_30 (by decide) (by decide) rfl (by decide) (fun c_30 => ?_) (fun n_30_5 => ?_)
    · refine aw_iload_n (pc' := 140) eX7_load_139 rfl rfl ?_
      refine aw_aload_n (pc' := 141) eX7_load_140 rfl rfl trivial ?_
      refine aw_iload_n (pc' := 142) eX7_load_141 rfl rfl ?_
      refine aw_bipush (pc' := 144) (v := 6) eX7_load_142 rfl (by decide) ?_
      refine aw_aload_n (pc' := 145) eX7_load_144 rfl rfl trivial ?_
      refine aw_Mref (pc' := 148) (kf := 0) 1 hM1 eX7_load_145 rfl (by decide) rfl q789 ?_
      refine aw_bipush (pc' := 150) (v := 67) eX7_load_148 rfl (by decide) ?_
      refine aw_MaldC (pc' := 151) 1 67 hM1 eX7_load_150 rfl (by decide) (by unfold vp_in; decide) (by decide) ?_
      refine aw_iconst (pc' := 152) (v := 4) eX7_load_151 rfl (by decide) ?_
      refine aw_irem (pc' := 153) eX7_load_152 rfl (by decide) ?_
      have e4 : U2.1 1 67 - U2.1 1 67 / 4 * 4 = nI (t % 4) := by rw [k2.1, ht]; exact pk_rem (d := 4) (by omega) (by omega) (by omega)
      rw [e4]
      refine aw_iadd (pc' := 154) eX7_load_153 rfl ?_
      rw [show (6 : Int32) + nI (t % 4) = nI (6 + t % 4) from nI_add 6 _]
      refine aw_callv (pc' := 157) (nn := 2) (c_one (d := d - 1) hM1 i (6 + t % 4) (by omega) (by omega)) eX7_load_154 rfl ⟨q901, q904, q62⟩ q903 q22 ⟨rfl, by decide +kernel, by decide +kernel, by decide +kernel⟩ rfl (by rw [hM1.2.1]; exact ⟨rfl, rfl⟩) rfl ⟨by omega, by decide⟩ ⟨by omega, by omega⟩ rfl (Nat.le_of_ble_eq_true rfl) (fun v48 h49 hq50 => ?_)
      obtain ⟨rfl, rfl⟩ := hq50
      dsimp only [Option.toList, List.cons_append, List.nil_append]
      refine aw_iadd (pc' := 158) eX7_load_157 rfl ?_
      refine aw_ret (v := some (.int _)) eX7_load_158 ⟨rfl, rfl⟩ (by omega) (by omega) rfl ?_
      simp only [zb_eq0, Bool.not_eq_false, Bool.not_eq_true, decide_eq_true_eq, decide_eq_false_iff_not, Decidable.not_not, k2.1] at c_14
      simp only [k2.1, Nat.add_zero] at c_30
      simp only [k2.1, Nat.add_zero] at n_30_0
      simp only [k2.1, Nat.add_zero] at n_30_1
      simp only [k2.1, Nat.add_zero] at n_30_2
      simp only [k2.1, Nat.add_zero] at n_30_3
      simp only [k2.1, Nat.add_zero] at n_30_4
      refine ⟨?_, U2, hM1, hk.tr (k2.le (Nat.zero_le n)), hs2⟩
      try simp only [e14, k2.1, mRd_k hk]
      simp [lod, sLoad, c_14, c_30, n_30_0, n_30_1, n_30_2, n_30_3, n_30_4]
    refine aw_tswo (tgt := 159) eX7_load_30 (by have g0 := zne n_30_0 (show ((1 : Int32)).toInt = 1 by decide); have g1 := zne n_30_1 (show ((2 : Int32)).toInt = 2 by decide); have g2 := zne n_30_2 (show ((3 : Int32)).toInt = 3 by decide); have g3 := zne n_30_3 (show ((4 : Int32)).toInt = 4 by decide); have g4 := zne n_30_4 (show ((5 : Int32)).toInt = 5 by decide); have g5 := zne n_30_5 (show ((6 : Int32)).toInt = 6 by decide); omega) (by decide) ?_
    refine aw_aload_n (pc' := 160) eX7_load_159 rfl rfl trivial ?_
    refine aw_Mint (pc' := 163) (kf := 14) hM1 eX7_load_160 rfl (by decide) q803 ?_
    refine aw_ret (v := some (.int _)) eX7_load_163 ⟨rfl, rfl⟩ (by omega) (by omega) rfl ?_
    simp only [zb_eq0, Bool.not_eq_false, Bool.not_eq_true, decide_eq_true_eq, decide_eq_false_iff_not, Decidable.not_not, k2.1] at c_14
    simp only [k2.1, Nat.add_zero] at n_30_0
    simp only [k2.1, Nat.add_zero] at n_30_1
    simp only [k2.1, Nat.add_zero] at n_30_2
    simp only [k2.1, Nat.add_zero] at n_30_3
    simp only [k2.1, Nat.add_zero] at n_30_4
    simp only [k2.1, Nat.add_zero] at n_30_5
    refine ⟨?_, U2, hM1, hk.tr (k2.le (Nat.zero_le n)), hs2⟩
    try simp only [e14, k2.1, mRd_k hk]
    simp [lod, sLoad, c_14, n_30_0, n_30_1, n_30_2, n_30_3, n_30_4, n_30_5]
end M13
