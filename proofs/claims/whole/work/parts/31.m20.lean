/-! the model: what is seen -/
section M20
variable {l : Launch} {G : GT} {u : Nat} {U U1 : MS} {d n m t : Nat} {g : Nat → Int32} {h : Hp} {Q : Option Value → Hp → Prop}
def sSeen (g : Nat → Int32) (y : Int32) : Nat → Bool
  | 0 => true
  | r + 1 => sSeen g y r && (decide (¬ g (71 + 3 * r) = y) || decide (g (10 * (g (70 + 3 * r)).toNatClampNeg + 3) = g (72 + 3 * r)))
def sAll (F : FT) (m a : Nat) : Nat → Nat → Nat → (Nat → Int32) → Bool
  | 0, _, _, _ => true
  | k + 1, q, t, g => if sSeen g (nI q) a = true then sAll F m a k (q + 1) (t + 1) (sDay F m t g) else false
/-- what is seen: a rows of tellers -/
def gS (g : Nat → Int32) (a : Nat) : Prop := g 69 = nI a ∧ a ≤ 5 ∧ ∀ r, r < a → ∃ b, b < 6 ∧ g (70 + 3 * r) = nI b
theorem gS_of {g g' : Nat → Int32} {a : Nat} (h : gS g a) (he : ∀ j, 69 ≤ j → j < 85 → g' j = g j) : gS g' a :=
  ⟨(he 69 (by omega) (by omega)).trans h.1, h.2.1, fun r hr => by
    obtain ⟨b, hb, e⟩ := h.2.2 r hr
    have := h.2.1
    exact ⟨b, hb, (he (70 + 3 * r) (by omega) (by omega)).trans e⟩⟩
theorem gS_day {F : FT} {a : Nat} (hm : m ≤ 6) (h : gS g a) : gS (sDay F m t g) a := gS_of h (fun j h1 h2 => sDay_hi hm (by omega) (by omega) (by omega))

abbrev mX7_isAllSeen : MT := (RX7, cX7_isAllSeen, 5, (some .boolean), false)
theorem eX7_isAllSeen_0 : decode mX7_isAllSeen.2.1 0 = .ok (.aload_n 0, 1) := by decide +kernel
theorem eX7_isAllSeen_1 : decode mX7_isAllSeen.2.1 1 = .ok (.getfield 15, 3) := by decide +kernel
theorem eX7_isAllSeen_4 : decode mX7_isAllSeen.2.1 4 = .ok (.aload_n 0, 1) := by decide +kernel
theorem eX7_isAllSeen_5 : decode mX7_isAllSeen.2.1 5 = .ok (.getfield 19, 3) := by decide +kernel
theorem eX7_isAllSeen_8 : decode mX7_isAllSeen.2.1 8 = .ok (.invokestatic 76, 3) := by decide +kernel
theorem eX7_isAllSeen_11 : decode mX7_isAllSeen.2.1 11 = .ok (.iconst 1, 1) := by decide +kernel
theorem eX7_isAllSeen_12 : decode mX7_isAllSeen.2.1 12 = .ok (.istore_n 1, 1) := by decide +kernel
theorem eX7_isAllSeen_13 : decode mX7_isAllSeen.2.1 13 = .ok (.iconst 0, 1) := by decide +kernel
theorem eX7_isAllSeen_14 : decode mX7_isAllSeen.2.1 14 = .ok (.istore_n 2, 1) := by decide +kernel
theorem eX7_isAllSeen_15 : decode mX7_isAllSeen.2.1 15 = .ok (.iload_n 2, 1) := by decide +kernel
theorem eX7_isAllSeen_16 : decode mX7_isAllSeen.2.1 16 = .ok (.bipush 12, 2) := by decide +kernel
theorem eX7_isAllSeen_18 : decode mX7_isAllSeen.2.1 18 = .ok (.if_icmp .gt 90, 3) := by decide +kernel
theorem eX7_isAllSeen_21 : decode mX7_isAllSeen.2.1 21 = .ok (.iload_n 1, 1) := by decide +kernel
theorem eX7_isAllSeen_22 : decode mX7_isAllSeen.2.1 22 = .ok (.ifCond .eq 86, 3) := by decide +kernel
theorem eX7_isAllSeen_25 : decode mX7_isAllSeen.2.1 25 = .ok (.iconst 0, 1) := by decide +kernel
theorem eX7_isAllSeen_26 : decode mX7_isAllSeen.2.1 26 = .ok (.istore_n 3, 1) := by decide +kernel
theorem eX7_isAllSeen_27 : decode mX7_isAllSeen.2.1 27 = .ok (.iload_n 3, 1) := by decide +kernel
theorem eX7_isAllSeen_28 : decode mX7_isAllSeen.2.1 28 = .ok (.aload_n 0, 1) := by decide +kernel
theorem eX7_isAllSeen_29 : decode mX7_isAllSeen.2.1 29 = .ok (.getfield 15, 3) := by decide +kernel
theorem eX7_isAllSeen_32 : decode mX7_isAllSeen.2.1 32 = .ok (.bipush 69, 2) := by decide +kernel
theorem eX7_isAllSeen_34 : decode mX7_isAllSeen.2.1 34 = .ok (.iaload, 1) := by decide +kernel
theorem eX7_isAllSeen_35 : decode mX7_isAllSeen.2.1 35 = .ok (.if_icmp .ge 63, 3) := by decide +kernel
theorem eX7_isAllSeen_38 : decode mX7_isAllSeen.2.1 38 = .ok (.bipush 70, 2) := by decide +kernel
theorem eX7_isAllSeen_40 : decode mX7_isAllSeen.2.1 40 = .ok (.iconst 3, 1) := by decide +kernel
theorem eX7_isAllSeen_41 : decode mX7_isAllSeen.2.1 41 = .ok (.iload_n 3, 1) := by decide +kernel
theorem eX7_isAllSeen_42 : decode mX7_isAllSeen.2.1 42 = .ok (.imul, 1) := by decide +kernel
theorem eX7_isAllSeen_43 : decode mX7_isAllSeen.2.1 43 = .ok (.iadd, 1) := by decide +kernel
theorem eX7_isAllSeen_44 : decode mX7_isAllSeen.2.1 44 = .ok (.istore 4, 2) := by decide +kernel
theorem eX7_isAllSeen_46 : decode mX7_isAllSeen.2.1 46 = .ok (.iload_n 1, 1) := by decide +kernel
theorem eX7_isAllSeen_47 : decode mX7_isAllSeen.2.1 47 = .ok (.ifCond .eq 43, 3) := by decide +kernel
theorem eX7_isAllSeen_50 : decode mX7_isAllSeen.2.1 50 = .ok (.aload_n 0, 1) := by decide +kernel
theorem eX7_isAllSeen_51 : decode mX7_isAllSeen.2.1 51 = .ok (.getfield 15, 3) := by decide +kernel
theorem eX7_isAllSeen_54 : decode mX7_isAllSeen.2.1 54 = .ok (.iload 4, 2) := by decide +kernel
theorem eX7_isAllSeen_56 : decode mX7_isAllSeen.2.1 56 = .ok (.iconst 1, 1) := by decide +kernel
theorem eX7_isAllSeen_57 : decode mX7_isAllSeen.2.1 57 = .ok (.iadd, 1) := by decide +kernel
theorem eX7_isAllSeen_58 : decode mX7_isAllSeen.2.1 58 = .ok (.iaload, 1) := by decide +kernel
theorem eX7_isAllSeen_59 : decode mX7_isAllSeen.2.1 59 = .ok (.iload_n 2, 1) := by decide +kernel
theorem eX7_isAllSeen_60 : decode mX7_isAllSeen.2.1 60 = .ok (.if_icmp .ne 26, 3) := by decide +kernel
theorem eX7_isAllSeen_63 : decode mX7_isAllSeen.2.1 63 = .ok (.aload_n 0, 1) := by decide +kernel
theorem eX7_isAllSeen_64 : decode mX7_isAllSeen.2.1 64 = .ok (.aload_n 0, 1) := by decide +kernel
theorem eX7_isAllSeen_65 : decode mX7_isAllSeen.2.1 65 = .ok (.getfield 15, 3) := by decide +kernel
theorem eX7_isAllSeen_68 : decode mX7_isAllSeen.2.1 68 = .ok (.iload 4, 2) := by decide +kernel
theorem eX7_isAllSeen_70 : decode mX7_isAllSeen.2.1 70 = .ok (.iaload, 1) := by decide +kernel
theorem eX7_isAllSeen_71 : decode mX7_isAllSeen.2.1 71 = .ok (.aload_n 0, 1) := by decide +kernel
theorem eX7_isAllSeen_72 : decode mX7_isAllSeen.2.1 72 = .ok (.getfield 15, 3) := by decide +kernel
theorem eX7_isAllSeen_75 : decode mX7_isAllSeen.2.1 75 = .ok (.iload 4, 2) := by decide +kernel
theorem eX7_isAllSeen_77 : decode mX7_isAllSeen.2.1 77 = .ok (.iconst 2, 1) := by decide +kernel
theorem eX7_isAllSeen_78 : decode mX7_isAllSeen.2.1 78 = .ok (.iadd, 1) := by decide +kernel
theorem eX7_isAllSeen_79 : decode mX7_isAllSeen.2.1 79 = .ok (.iaload, 1) := by decide +kernel
theorem eX7_isAllSeen_80 : decode mX7_isAllSeen.2.1 80 = .ok (.invokevirtual 105, 3) := by decide +kernel
theorem eX7_isAllSeen_83 : decode mX7_isAllSeen.2.1 83 = .ok (.ifCond .eq 7, 3) := by decide +kernel
theorem eX7_isAllSeen_86 : decode mX7_isAllSeen.2.1 86 = .ok (.iconst 1, 1) := by decide +kernel
theorem eX7_isAllSeen_87 : decode mX7_isAllSeen.2.1 87 = .ok (.goto 4, 3) := by decide +kernel
theorem eX7_isAllSeen_90 : decode mX7_isAllSeen.2.1 90 = .ok (.iconst 0, 1) := by decide +kernel
theorem eX7_isAllSeen_91 : decode mX7_isAllSeen.2.1 91 = .ok (.istore_n 1, 1) := by decide +kernel
theorem eX7_isAllSeen_92 : decode mX7_isAllSeen.2.1 92 = .ok (.iinc 3 1, 3) := by decide +kernel
theorem eX7_isAllSeen_95 : decode mX7_isAllSeen.2.1 95 = .ok (.goto (-68), 3) := by decide +kernel
theorem eX7_isAllSeen_98 : decode mX7_isAllSeen.2.1 98 = .ok (.aload_n 0, 1) := by decide +kernel
theorem eX7_isAllSeen_99 : decode mX7_isAllSeen.2.1 99 = .ok (.invokevirtual 200, 3) := by decide +kernel
theorem eX7_isAllSeen_102 : decode mX7_isAllSeen.2.1 102 = .ok (.iinc 2 1, 3) := by decide +kernel
theorem eX7_isAllSeen_105 : decode mX7_isAllSeen.2.1 105 = .ok (.goto (-90), 3) := by decide +kernel
theorem eX7_isAllSeen_108 : decode mX7_isAllSeen.2.1 108 = .ok (.aload_n 0, 1) := by decide +kernel
theorem eX7_isAllSeen_109 : decode mX7_isAllSeen.2.1 109 = .ok (.getfield 19, 3) := by decide +kernel
theorem eX7_isAllSeen_112 : decode mX7_isAllSeen.2.1 112 = .ok (.aload_n 0, 1) := by decide +kernel
theorem eX7_isAllSeen_113 : decode mX7_isAllSeen.2.1 113 = .ok (.getfield 15, 3) := by decide +kernel
theorem eX7_isAllSeen_116 : decode mX7_isAllSeen.2.1 116 = .ok (.invokestatic 76, 3) := by decide +kernel
theorem eX7_isAllSeen_119 : decode mX7_isAllSeen.2.1 119 = .ok (.iload_n 1, 1) := by decide +kernel
theorem eX7_isAllSeen_120 : decode mX7_isAllSeen.2.1 120 = .ok (.ireturn, 1) := by decide +kernel
theorem lp_X7_isAllSeen (hM : MAt h u U) {a : Nat} (hs : gS (U.1 1) a) (hd : 2 ≤ d) {q : Int32} (hQ : ∀ y' o4, AW l G mX7_isAllSeen d 0 0 Q 0 0 h [some (.ref u), some (.int (zb (sSeen (U.1 1) q a))), some (.int q), some (.int y'), o4] [] 98) : ∀ (j r : Nat) (y x : Int32) (o4 : Option Value), j = a - r → r ≤ a → y = nI r → x = zb (sSeen (U.1 1) q r) → AW l G mX7_isAllSeen d 0 0 Q 0 0 h [some (.ref u), some (.int x), some (.int q), some (.int y), o4] [] 27 := by
  have ha5 := hs.2.1
  intro j
  induction j using Nat.strongRecOn with
  | _ j ih =>
    intro r y x o4 hj hr hy hx
    subst hy hx
    refine aw_iload_n (pc' := 28) eX7_isAllSeen_27 rfl rfl ?_
    refine aw_aload_n (pc' := 29) eX7_isAllSeen_28 rfl rfl trivial ?_
    refine aw_Mref (pc' := 32) (kf := 0) 1 hM eX7_isAllSeen_29 rfl (by decide) rfl q789 ?_
    refine aw_bipush (pc' := 34) (v := 69) eX7_isAllSeen_32 rfl (by decide) ?_
    refine aw_MaldC (pc' := 35) 1 69 hM eX7_isAllSeen_34 rfl (by decide) (by unfold vp_in; decide) (by decide) ?_
    refine aw_icmp_ge (pc' := 38) (tgt := 98) eX7_isAllSeen_35 rfl (by decide) (fun c_35 => ?_) (fun c_35 => ?_)
    · rw [hs.1] at c_35
      have c9 := ge_nI (by omega) (by omega) c_35
      obtain rfl : r = a := by omega
      exact hQ _ _
    · rw [hs.1] at c_35
      have c9 := nge_nI (by omega) (by omega) c_35
      obtain ⟨hx6, hv6⟩ := ix3 (c := 70) (b := 3) (a := r) (by omega)
      have e7 : (70 + 3 * nI r) + 1 = nI (71 + 3 * r) := by show nI 70 + nI 3 * nI r + nI 1 = _; rw [pk_mul, nI_add, nI_add]; congr 1; omega
      have e8 : (70 + 3 * nI r) + 2 = nI (72 + 3 * r) := by show nI 70 + nI 3 * nI r + nI 2 = _; rw [pk_mul, nI_add, nI_add]; congr 1; omega
      have hx7 : ((70 + 3 * nI r) + 1).toNatClampNeg = 71 + 3 * r := by rw [e7]; exact nI_clamp (by omega)
      have hv7 : vp_in ((70 + 3 * nI r) + 1) 123 := by rw [e7]; exact vp_in_nI (by omega) (by omega)
      have hx8 : ((70 + 3 * nI r) + 2).toNatClampNeg = 72 + 3 * r := by rw [e8]; exact nI_clamp (by omega)
      have hv8 : vp_in ((70 + 3 * nI r) + 2) 123 := by rw [e8]; exact vp_in_nI (by omega) (by omega)
      obtain ⟨b, hb, eb⟩ := hs.2.2 r c9
      have clb : (nI b).toNatClampNeg = b := nI_clamp (by omega)
      refine aw_bipush (pc' := 40) (v := 70) eX7_isAllSeen_38 rfl (by decide) ?_
      refine aw_iconst (pc' := 41) (v := 3) eX7_isAllSeen_40 rfl (by decide) ?_
      refine aw_iload_n (pc' := 42) eX7_isAllSeen_41 rfl rfl ?_
      refine aw_imul (pc' := 43) eX7_isAllSeen_42 rfl ?_
      refine aw_iadd (pc' := 44) eX7_isAllSeen_43 rfl ?_
      refine aw_istore (pc' := 46) eX7_isAllSeen_44 rfl (by decide) ?_
      dsimp only [zst, zst2, zcut]
      refine aw_iload_n (pc' := 47) eX7_isAllSeen_46 rfl rfl ?_
      refine aw_if_eq (pc' := 50) (tgt := 90) eX7_isAllSeen_47 rfl (by decide) (fun c_47 => ?_) (fun c_47 => ?_)
      · refine aw_iconst (pc' := 91) (v := 0) eX7_isAllSeen_90 rfl (by decide) ?_
        refine aw_istore_n (pc' := 92) eX7_isAllSeen_91 rfl (by decide) ?_
        dsimp only [zst, zst2, zcut]
        refine aw_iinc (pc' := 95) eX7_isAllSeen_92 rfl rfl rfl (by decide) ?_
        dsimp only [zst, zst2, zcut]
        refine aw_goto eX7_isAllSeen_95 (by decide) (tgt := 27) ?_
        simp only [zb_eq0, Bool.not_eq_false, Bool.not_eq_true, decide_eq_true_eq, decide_eq_false_iff_not, Decidable.not_not] at c_47
        refine ih (a - (r + 1)) (by omega) (r + 1) _ _ _ rfl (by omega) (nI_inc r) ?_
        first | (simp [sSeen, zb, c_47]; done) | (simp_all [sSeen, zb]; done)
      · refine aw_aload_n (pc' := 51) eX7_isAllSeen_50 rfl rfl trivial ?_
        refine aw_Mref (pc' := 54) (kf := 0) 1 hM eX7_isAllSeen_51 rfl (by decide) rfl q789 ?_
        refine aw_iload (pc' := 56) eX7_isAllSeen_54 rfl rfl ?_
        refine aw_iconst (pc' := 57) (v := 1) eX7_isAllSeen_56 rfl (by decide) ?_
        refine aw_iadd (pc' := 58) eX7_isAllSeen_57 rfl ?_
        refine aw_MaldC (pc' := 59) 1 (71 + 3 * r) hM eX7_isAllSeen_58 rfl (by decide) hv7 hx7 ?_
        refine aw_iload_n (pc' := 60) eX7_isAllSeen_59 rfl rfl ?_
        refine aw_icmp_ne (pc' := 63) (tgt := 86) eX7_isAllSeen_60 rfl (by decide) (fun c_60 => ?_) (fun c_60 => ?_)
        · refine aw_iconst (pc' := 87) (v := 1) eX7_isAllSeen_86 rfl (by decide) ?_
          refine aw_goto eX7_isAllSeen_87 (by decide) (tgt := 91) ?_
          refine aw_istore_n (pc' := 92) eX7_isAllSeen_91 rfl (by decide) ?_
          dsimp only [zst, zst2, zcut]
          refine aw_iinc (pc' := 95) eX7_isAllSeen_92 rfl rfl rfl (by decide) ?_
          dsimp only [zst, zst2, zcut]
          refine aw_goto eX7_isAllSeen_95 (by decide) (tgt := 27) ?_
          have c_47 := zb_ne0.mp c_47
          refine ih (a - (r + 1)) (by omega) (r + 1) _ _ _ rfl (by omega) (nI_inc r) ?_
          first | (simp [sSeen, zb, c_47, c_60]; done) | (simp_all [sSeen, zb]; done)
        · refine aw_aload_n (pc' := 64) eX7_isAllSeen_63 rfl rfl trivial ?_
          refine aw_aload_n (pc' := 65) eX7_isAllSeen_64 rfl rfl trivial ?_
          refine aw_Mref (pc' := 68) (kf := 0) 1 hM eX7_isAllSeen_65 rfl (by decide) rfl q789 ?_
          refine aw_iload (pc' := 70) eX7_isAllSeen_68 rfl rfl ?_
          refine aw_MaldC (pc' := 71) 1 (70 + 3 * r) hM eX7_isAllSeen_70 rfl (by decide) hv6 hx6 ?_
          refine aw_aload_n (pc' := 72) eX7_isAllSeen_71 rfl rfl trivial ?_
          refine aw_Mref (pc' := 75) (kf := 0) 1 hM eX7_isAllSeen_72 rfl (by decide) rfl q789 ?_
          refine aw_iload (pc' := 77) eX7_isAllSeen_75 rfl rfl ?_
          refine aw_iconst (pc' := 78) (v := 2) eX7_isAllSeen_77 rfl (by decide) ?_
          refine aw_iadd (pc' := 79) eX7_isAllSeen_78 rfl ?_
          refine aw_MaldC (pc' := 80) 1 (72 + 3 * r) hM eX7_isAllSeen_79 rfl (by decide) hv8 hx8 ?_
          rw [eb]
          refine aw_callv (pc' := 83) (nn := 2) (c_isAs (d := d - 1) hM b (U.1 1 (72 + 3 * r)) (by omega) (by omega)) eX7_isAllSeen_80 rfl ⟨q957, q960, q62⟩ q959 q36 ⟨rfl, by decide +kernel, by decide +kernel, by decide +kernel⟩ rfl (by rw [hM.2.1]; exact ⟨rfl, rfl⟩) rfl ⟨by omega, by decide⟩ ⟨by omega, by omega⟩ rfl (Nat.le_of_ble_eq_true rfl) (fun v1 h2 hq3 => ?_)
          obtain ⟨rfl, rfl⟩ := hq3
          dsimp only [Option.toList, List.cons_append, List.nil_append]
          refine aw_if_eq (pc' := 86) (tgt := 90) eX7_isAllSeen_83 rfl (by decide) (fun c_83 => ?_) (fun c_83 => ?_)
          · refine aw_iconst (pc' := 91) (v := 0) eX7_isAllSeen_90 rfl (by decide) ?_
            refine aw_istore_n (pc' := 92) eX7_isAllSeen_91 rfl (by decide) ?_
            dsimp only [zst, zst2, zcut]
            refine aw_iinc (pc' := 95) eX7_isAllSeen_92 rfl rfl rfl (by decide) ?_
            dsimp only [zst, zst2, zcut]
            refine aw_goto eX7_isAllSeen_95 (by decide) (tgt := 27) ?_
            have c_47 := zb_ne0.mp c_47
            simp only [zb_eq0, Bool.not_eq_false, Bool.not_eq_true, decide_eq_true_eq, decide_eq_false_iff_not, Decidable.not_not] at c_83
            refine ih (a - (r + 1)) (by omega) (r + 1) _ _ _ rfl (by omega) (nI_inc r) ?_
            first | (simp [sSeen, zb, c_47, c_60, c_83, eb, clb]; done) | (simp_all [sSeen, zb]; done)
          · refine aw_iconst (pc' := 87) (v := 1) eX7_isAllSeen_86 rfl (by decide) ?_
            refine aw_goto eX7_isAllSeen_87 (by decide) (tgt := 91) ?_
            refine aw_istore_n (pc' := 92) eX7_isAllSeen_91 rfl (by decide) ?_
            dsimp only [zst, zst2, zcut]
            refine aw_iinc (pc' := 95) eX7_isAllSeen_92 rfl rfl rfl (by decide) ?_
            dsimp only [zst, zst2, zcut]
            refine aw_goto eX7_isAllSeen_95 (by decide) (tgt := 27) ?_
            have c_47 := zb_ne0.mp c_47
            simp only [zb_eq0, Bool.not_eq_false, Bool.not_eq_true, decide_eq_true_eq, decide_eq_false_iff_not, Decidable.not_not] at c_83
            refine ih (a - (r + 1)) (by omega) (r + 1) _ _ _ rfl (by omega) (nI_inc r) ?_
            first | (simp [sSeen, zb, c_47, c_60, c_83, eb, clb]; done) | (simp_all [sSeen, zb]; done)
theorem lq_X7_isAllSeen (hz : mZ U) {F : FT} (hF : mRd U = F) {a : Nat} (hd : 26 ≤ d) {h0 : Hp} : ∀ (j q t : Nat) (y : Int32) (g : Nat → Int32) (o3 o4 : Option Value) (h : Hp) (U1 : MS), q + j = 13 → y = nI q → gOk g m t → gS g a → t + j ≤ 1073741824 → MK n g U U1 → MAt h u U1 → Same u 19 h0 h → (∀ h' U' g' y' o3' o4', MAt h' u U' → MK n g' U U' → Same u 19 h0 h' → AW l G mX7_isAllSeen d 0 0 Q 0 0 h' [some (.ref u), some (.int (zb (sAll F m a j q t g))), some (.int y'), o3', o4'] [] 108) → AW l G mX7_isAllSeen d 0 0 Q 0 0 h [some (.ref u), some (.int 1), some (.int y), o3, o4] [] 15 := by
  intro j
  induction j with
  | zero =>
    intro q t y g o3 o4 h U1 hqj hy hg hgs htj hk hM hs hQ
    subst hy
    obtain rfl : q = 13 := by omega
    refine aw_iload_n (pc' := 16) eX7_isAllSeen_15 rfl rfl ?_
    refine aw_bipush (v := 12) (pc' := 18) eX7_isAllSeen_16 rfl (by decide) ?_
    refine aw_icmp_gt (pc' := 21) (tgt := 108) eX7_isAllSeen_18 rfl (by decide) (fun c_18 => ?_) (fun c_18 => ?_)
    · exact hQ _ _ _ _ _ _ hM hk hs
    · exact absurd (show nI 13 > 12 by decide) c_18
  | succ j ih =>
    intro q t y g o3 o4 h U1 hqj hy hg hgs htj hk hM hs hQ
    subst hy
    refine aw_iload_n (pc' := 16) eX7_isAllSeen_15 rfl rfl ?_
    refine aw_bipush (pc' := 18) (v := 12) eX7_isAllSeen_16 rfl (by decide) ?_
    refine aw_icmp_gt (pc' := 21) (tgt := 108) eX7_isAllSeen_18 rfl (by decide) (fun c_18 => ?_) (fun c_18 => ?_)
    · exact absurd (nI_gt (a := q) (b := 12) (by omega) (by omega) c_18) (by omega)
    · refine aw_iload_n (pc' := 22) eX7_isAllSeen_21 rfl rfl ?_
      refine aw_if_eq (pc' := 25) (tgt := 108) eX7_isAllSeen_22 rfl (by decide) (fun c_22 => ?_) (fun c_22 => ?_)
      · exact absurd c_22 (by decide)
      · refine aw_iconst (pc' := 26) (v := 0) eX7_isAllSeen_25 rfl (by decide) ?_
        refine aw_istore_n (pc' := 27) eX7_isAllSeen_26 rfl (by decide) ?_
        dsimp only [zst, zst2, zcut]
        refine lp_X7_isAllSeen hM (a := a) (q := nI q) (by rw [hk.1]; exact hgs) (by omega) (fun y' o4' => ?_) a 0 _ _ _ (by omega) (by omega) rfl rfl
        refine aw_aload_n (pc' := 99) eX7_isAllSeen_98 rfl rfl trivial ?_
        refine aw_callv (pc' := 102) (nn := 0) (c_X7_day (d := d - 1) hk hM hz hg (by omega)) eX7_isAllSeen_99 rfl ⟨q970, q973, q62⟩ q972 q39 ⟨rfl, by decide +kernel, by decide +kernel, by decide +kernel⟩ rfl (by rw [hM.2.1]; exact ⟨rfl, rfl⟩) rfl ⟨by omega, by decide⟩ ⟨by omega, by omega⟩ rfl (Nat.le_of_ble_eq_true rfl) (fun v5 h6 hq7 => ?_)
        obtain ⟨rfl, V3, hM1, k4, hs2⟩ := hq7
        dsimp only [Option.toList, List.cons_append, List.nil_append]
        refine aw_iinc (pc' := 105) eX7_isAllSeen_102 rfl rfl rfl (by decide) ?_
        dsimp only [zst, zst2, zcut]
        refine aw_goto eX7_isAllSeen_105 (by decide) (tgt := 15) ?_
        by_cases g9 : sSeen g (nI q) a = true
        · have e : sAll F m a (j + 1) q t g = sAll F m a j (q + 1) (t + 1) (sDay F m t g) := by rw [sAll]; exact if_pos g9
          rw [e] at hQ
          rw [hF] at k4
          rw [show sSeen (U1.1 1) (nI q) a = true by rw [hk.1]; exact g9]
          exact ih (q + 1) (t + 1) _ _ _ _ _ _ (by omega) (nI_inc q) (sDay_ok hg (by omega)) (gS_day hg.2.1 hgs) (by omega) k4 hM1 (hs.tr hs2) hQ
        · have e : sAll F m a (j + 1) q t g = false := by rw [sAll]; exact if_neg g9
          rw [e] at hQ
          have g10 : sSeen (U1.1 1) (nI q) a = false := by rw [hk.1]; exact Bool.not_eq_true _ ▸ g9
          rw [g10]
          refine aw_iload_n (pc' := 16) eX7_isAllSeen_15 rfl rfl ?_
          refine aw_bipush (pc' := 18) (v := 12) eX7_isAllSeen_16 rfl (by decide) ?_
          refine aw_icmp_gt (pc' := 21) (tgt := 108) eX7_isAllSeen_18 rfl (by decide) (fun c_18 => ?_) (fun c_18 => ?_)
          · exact hQ _ _ _ _ _ _ hM1 k4 (hs.tr hs2)
          · refine aw_iload_n (pc' := 22) eX7_isAllSeen_21 rfl rfl ?_
            refine aw_if_eq (pc' := 25) (tgt := 108) eX7_isAllSeen_22 rfl (by decide) (fun c_22 => ?_) (fun c_22 => ?_)
            · exact hQ _ _ _ _ _ _ hM1 k4 (hs.tr hs2)
            · exact absurd rfl c_22
theorem c_X7_isAllSeen (hk : MK n g U U1) (hM : MAt h u U1) (hz : mZ U) (hg : gOk g m t) (hn : 1 ≤ n) {a : Nat} (hgs : gS g a) (ht6 : t ≤ 1000000000) (hd : 26 ≤ d) : Ct l G mX7_isAllSeen yX7_isAllSeen d 0 0 [.ref u] h (fun r h' => r = some (.int (zb (sAll (mRd U) m a 13 0 t g))) ∧ ∃ U', MAt h' u U' ∧ MK n g U U' ∧ Same u 19 h h') := by
  refine ct_of (lv := [some (.ref u), none, none, none, none]) (by decide +kernel) rfl (fun z => by cases z) (fun _ => rfl) (fun _ => Nat.le_of_ble_eq_true rfl) ?_
  refine aw_aload_n (pc' := 1) eX7_isAllSeen_0 rfl rfl trivial ?_
  refine aw_Mref (pc' := 4) (kf := 0) 1 hM eX7_isAllSeen_1 rfl (by decide) rfl q789 ?_
  refine aw_aload_n (pc' := 5) eX7_isAllSeen_4 rfl rfl trivial ?_
  refine aw_Mref (pc' := 8) (kf := 1) 2 hM eX7_isAllSeen_5 rfl (by decide) rfl q790 ?_
  refine aw_calls (pc' := 11) (nn := 2) (c_X7_move (d := d - 1) hM 1 2 (by decide) (by decide) (by decide) (by omega)) eX7_isAllSeen_8 rfl ⟨q879, q881, q62⟩ q880 ⟨by decide +kernel, by decide +kernel, by decide +kernel⟩ rfl ⟨by omega, by decide⟩ ⟨by omega, by omega⟩ rfl (Nat.le_of_ble_eq_true rfl) (fun v3 h4 hq5 => ?_)
  obtain ⟨rfl, hM1, hs2⟩ := hq5
  dsimp only [Option.toList, List.cons_append, List.nil_append]
  refine aw_iconst (pc' := 12) (v := 1) eX7_isAllSeen_11 rfl (by decide) ?_
  refine aw_istore_n (pc' := 13) eX7_isAllSeen_12 rfl (by decide) ?_
  dsimp only [zst, zst2, zcut]
  refine aw_iconst (pc' := 14) (v := 0) eX7_isAllSeen_13 rfl (by decide) ?_
  refine aw_istore_n (pc' := 15) eX7_isAllSeen_14 rfl (by decide) ?_
  dsimp only [zst, zst2, zcut]
  have b0 := MK.b0 hk.1
  refine lq_X7_isAllSeen (n := 0) (U := mset U1 2 (U1.1 1)) (F := mRd U) (hz.k (hk.m2 hn)) (mRd_K (hk.m2 hn)) (a := a) (by omega) 13 0 t _ g _ _ _ _ (by omega) rfl hg hgs (by omega) b0 hM1 hs2 (fun h' U' g' y' o3' o4' m9 k9 s9 => ?_)
  refine aw_aload_n (pc' := 109) eX7_isAllSeen_108 rfl rfl trivial ?_
  refine aw_Mref (pc' := 112) (kf := 1) 2 m9 eX7_isAllSeen_109 rfl (by decide) rfl q790 ?_
  refine aw_aload_n (pc' := 113) eX7_isAllSeen_112 rfl rfl trivial ?_
  refine aw_Mref (pc' := 116) (kf := 0) 1 m9 eX7_isAllSeen_113 rfl (by decide) rfl q789 ?_
  refine aw_calls (pc' := 119) (nn := 2) (c_X7_move (d := d - 1) m9 2 1 (by decide) (by decide) (by decide) (by omega)) eX7_isAllSeen_116 rfl ⟨q879, q881, q62⟩ q880 ⟨by decide +kernel, by decide +kernel, by decide +kernel⟩ rfl ⟨by omega, by decide⟩ ⟨by omega, by omega⟩ rfl (Nat.le_of_ble_eq_true rfl) (fun v3 h4 hq5 => ?_)
  obtain ⟨rfl, hM1, hs2⟩ := hq5
  have hT6 := s9.tr hs2
  dsimp only [Option.toList, List.cons_append, List.nil_append]
  refine aw_iload_n (pc' := 120) eX7_isAllSeen_119 rfl rfl ?_
  refine aw_ret (v := some (.int _)) eX7_isAllSeen_120 ⟨rfl, zbn _⟩ (by omega) (by omega) rfl ?_
  exact ⟨rfl, _, hM1, hk.tri hn k9, hT6⟩
def sFit1 (F : FT) (g : Nat → Int32) (m a t p : Nat) : Nat → Int32
  | 0 => 0
  | v + 1 => sFit1 F g m a t p v ||| (if sAll F m a 13 0 t (upd g p (nI v)) = true then 1 <<< (nI v &&& 31) else 0)
theorem up_ok {p : Nat} {x : Int32} (hp : p < 60) (hg : gOk g m t) : gOk (upd g p x) m t := gOk_of hg (upd_ne (by omega)) (upd_ne (by omega)) (upd_ne (by omega))
theorem up_gS {p a : Nat} {x : Int32} (hp : p < 60) (hg : gS g a) : gS (upd g p x) a := gS_of hg (fun j h1 h2 => upd_ne (by omega))
abbrev mX7_fits : MT := (RX7, cX7_fits, 7, (some .int), false)
theorem eX7_fits_0 : decode mX7_fits.2.1 0 = .ok (.aload_n 0, 1) := by decide +kernel
theorem eX7_fits_1 : decode mX7_fits.2.1 1 = .ok (.iload_n 1, 1) := by decide +kernel
theorem eX7_fits_2 : decode mX7_fits.2.1 2 = .ok (.iload_n 2, 1) := by decide +kernel
theorem eX7_fits_3 : decode mX7_fits.2.1 3 = .ok (.invokevirtual 84, 3) := by decide +kernel
theorem eX7_fits_6 : decode mX7_fits.2.1 6 = .ok (.istore 4, 2) := by decide +kernel
theorem eX7_fits_8 : decode mX7_fits.2.1 8 = .ok (.iconst 0, 1) := by decide +kernel
theorem eX7_fits_9 : decode mX7_fits.2.1 9 = .ok (.istore 5, 2) := by decide +kernel
theorem eX7_fits_11 : decode mX7_fits.2.1 11 = .ok (.iconst 0, 1) := by decide +kernel
theorem eX7_fits_12 : decode mX7_fits.2.1 12 = .ok (.istore 6, 2) := by decide +kernel
theorem eX7_fits_14 : decode mX7_fits.2.1 14 = .ok (.iload 6, 2) := by decide +kernel
theorem eX7_fits_16 : decode mX7_fits.2.1 16 = .ok (.iload_n 3, 1) := by decide +kernel
theorem eX7_fits_17 : decode mX7_fits.2.1 17 = .ok (.if_icmp .gt 38, 3) := by decide +kernel
theorem eX7_fits_20 : decode mX7_fits.2.1 20 = .ok (.aload_n 0, 1) := by decide +kernel
theorem eX7_fits_21 : decode mX7_fits.2.1 21 = .ok (.iload_n 1, 1) := by decide +kernel
theorem eX7_fits_22 : decode mX7_fits.2.1 22 = .ok (.iload_n 2, 1) := by decide +kernel
theorem eX7_fits_23 : decode mX7_fits.2.1 23 = .ok (.iload 6, 2) := by decide +kernel
theorem eX7_fits_25 : decode mX7_fits.2.1 25 = .ok (.invokevirtual 109, 3) := by decide +kernel
theorem eX7_fits_28 : decode mX7_fits.2.1 28 = .ok (.pop, 1) := by decide +kernel
theorem eX7_fits_29 : decode mX7_fits.2.1 29 = .ok (.iload 5, 2) := by decide +kernel
theorem eX7_fits_31 : decode mX7_fits.2.1 31 = .ok (.aload_n 0, 1) := by decide +kernel
theorem eX7_fits_32 : decode mX7_fits.2.1 32 = .ok (.invokevirtual 218, 3) := by decide +kernel
theorem eX7_fits_35 : decode mX7_fits.2.1 35 = .ok (.ifCond .eq 10, 3) := by decide +kernel
theorem eX7_fits_38 : decode mX7_fits.2.1 38 = .ok (.iconst 1, 1) := by decide +kernel
theorem eX7_fits_39 : decode mX7_fits.2.1 39 = .ok (.iload 6, 2) := by decide +kernel
theorem eX7_fits_41 : decode mX7_fits.2.1 41 = .ok (.ishl, 1) := by decide +kernel
theorem eX7_fits_42 : decode mX7_fits.2.1 42 = .ok (.goto 4, 3) := by decide +kernel
theorem eX7_fits_45 : decode mX7_fits.2.1 45 = .ok (.iconst 0, 1) := by decide +kernel
theorem eX7_fits_46 : decode mX7_fits.2.1 46 = .ok (.ior, 1) := by decide +kernel
theorem eX7_fits_47 : decode mX7_fits.2.1 47 = .ok (.istore 5, 2) := by decide +kernel
theorem eX7_fits_49 : decode mX7_fits.2.1 49 = .ok (.iinc 6 1, 3) := by decide +kernel
theorem eX7_fits_52 : decode mX7_fits.2.1 52 = .ok (.goto (-38), 3) := by decide +kernel
theorem eX7_fits_55 : decode mX7_fits.2.1 55 = .ok (.aload_n 0, 1) := by decide +kernel
theorem eX7_fits_56 : decode mX7_fits.2.1 56 = .ok (.iload_n 1, 1) := by decide +kernel
theorem eX7_fits_57 : decode mX7_fits.2.1 57 = .ok (.iload_n 2, 1) := by decide +kernel
theorem eX7_fits_58 : decode mX7_fits.2.1 58 = .ok (.iload 4, 2) := by decide +kernel
theorem eX7_fits_60 : decode mX7_fits.2.1 60 = .ok (.invokevirtual 109, 3) := by decide +kernel
theorem eX7_fits_63 : decode mX7_fits.2.1 63 = .ok (.pop, 1) := by decide +kernel
theorem eX7_fits_64 : decode mX7_fits.2.1 64 = .ok (.iload 5, 2) := by decide +kernel
theorem eX7_fits_66 : decode mX7_fits.2.1 66 = .ok (.ireturn, 1) := by decide +kernel
theorem lp_X7_fits (hz : mZ U) (hg : gOk g m t) (hn : 1 ≤ n) {a : Nat} (hgS : gS g a) {i c w : Nat} (hi : i < 6) (hc : c < 6) (hw : w ≤ 30) {x4 : Int32} (ht6 : t ≤ 1000000000) (hd : 27 ≤ d) {h0 : Hp} (hQ : ∀ h' U' g' y', MAt h' u U' → MK n g' U U' → Same u 19 h0 h' → (∀ y, upd g' (10 * i + c) y = upd g (10 * i + c) y) → AW l G mX7_fits d 0 0 Q 0 0 h' [some (.ref u), some (.int (nI i)), some (.int (nI c)), some (.int (nI w)), some (.int x4), some (.int (sFit1 (mRd U) g m a t (10 * i + c) (w + 1))), some (.int y')] [] 55) : ∀ (j v : Nat) (y b : Int32) (h : Hp) (g' : Nat → Int32) (U1 : MS), j = w + 1 - v → v ≤ w + 1 → y = nI v → b = (sFit1 (mRd U) g m a t (10 * i + c) v) → MK n g' U U1 → (∀ y, upd g' (10 * i + c) y = upd g (10 * i + c) y) → MAt h u U1 → Same u 19 h0 h → AW l G mX7_fits d 0 0 Q 0 0 h [some (.ref u), some (.int (nI i)), some (.int (nI c)), some (.int (nI w)), some (.int x4), some (.int b), some (.int y)] [] 14 := by
  intro j
  induction j using Nat.strongRecOn with
  | _ j ih =>
    intro v y b h g' U1 hj hv hy hb hk hgs hM hs
    subst hy hb
    refine aw_iload (pc' := 16) eX7_fits_14 rfl rfl ?_
    refine aw_iload_n (pc' := 17) eX7_fits_16 rfl rfl ?_
    refine aw_icmp_gt (pc' := 20) (tgt := 55) eX7_fits_17 rfl (by decide) (fun c_17 => ?_) (fun c_17 => ?_)
    · have c9 := nI_gt (by omega) (by omega) c_17
      obtain rfl : v = w + 1 := by omega
      exact hQ _ _ _ _ hM hk hs hgs
    · have c9 : v ≤ w := by
        refine Nat.not_lt.mp fun z => c_17 ?_
        exact (nI_ltI (by omega) (by omega)).mpr z
      refine aw_aload_n (pc' := 21) eX7_fits_20 rfl rfl trivial ?_
      refine aw_iload_n (pc' := 22) eX7_fits_21 rfl rfl ?_
      refine aw_iload_n (pc' := 23) eX7_fits_22 rfl rfl ?_
      refine aw_iload (pc' := 25) eX7_fits_23 rfl rfl ?_
      refine aw_callv (pc' := 28) (nn := 3) (c_change (d := d - 1) hM i c (nI v) (by omega) (by omega)) eX7_fits_25 rfl ⟨q986, q989, q62⟩ q988 q43 ⟨rfl, by decide +kernel, by decide +kernel, by decide +kernel⟩ rfl (by rw [hM.2.1]; exact ⟨rfl, rfl⟩) rfl ⟨by omega, by decide⟩ ⟨by omega, by omega⟩ rfl (Nat.le_of_ble_eq_true rfl) (fun v3 h4 hq5 => ?_)
      obtain ⟨rfl, hM1, hs2⟩ := hq5
      dsimp only [Option.toList, List.cons_append, List.nil_append]
      have kc : MK n (upd g (10 * i + c) (nI v)) U (mup U1 1 (10 * i + c) (nI v)) := by rw [← hgs]; exact hk.up
      refine aw_pop (pc' := 29) eX7_fits_28 rfl rfl ?_
      refine aw_iload (pc' := 31) eX7_fits_29 rfl rfl ?_
      refine aw_aload_n (pc' := 32) eX7_fits_31 rfl rfl trivial ?_
      refine aw_callv (pc' := 35) (nn := 0) (c_X7_isAllSeen (d := d - 1) kc hM1 hz (up_ok (by omega) hg) (n := n) (by omega) (a := a) (up_gS (by omega) hgS) (by omega) (by omega)) eX7_fits_32 rfl ⟨q1074, q1077, q62⟩ q1076 q50 ⟨rfl, by decide +kernel, by decide +kernel, by decide +kernel⟩ rfl (by rw [hM1.2.1]; exact ⟨rfl, rfl⟩) rfl ⟨by omega, by decide⟩ ⟨by omega, by omega⟩ rfl (Nat.le_of_ble_eq_true rfl) (fun v10 h11 hq12 => ?_)
      obtain ⟨rfl, V8, hM6, k9, hs7⟩ := hq12
      have hT13 := hs2.tr hs7
      dsimp only [Option.toList, List.cons_append, List.nil_append]
      refine aw_if_eq (pc' := 38) (tgt := 45) eX7_fits_35 rfl (by decide) (fun c_35 => ?_) (fun c_35 => ?_)
      · refine aw_iconst (pc' := 46) (v := 0) eX7_fits_45 rfl (by decide) ?_
        refine aw_ior (pc' := 47) eX7_fits_46 rfl ?_
        refine aw_istore (pc' := 49) eX7_fits_47 rfl (by decide) ?_
        dsimp only [zst, zst2, zcut]
        refine aw_iinc (pc' := 52) eX7_fits_49 rfl rfl rfl (by decide) ?_
        dsimp only [zst, zst2, zcut]
        refine aw_goto eX7_fits_52 (by decide) (tgt := 14) ?_
        simp only [zb_eq0, Bool.not_eq_false, Bool.not_eq_true, decide_eq_true_eq, decide_eq_false_iff_not, Decidable.not_not] at c_35
        exact ih (w + 1 - (v + 1)) (by omega) (v + 1) _ _ _ _ _ rfl (by omega) (nI_inc v) (by rw [sFit1]; exact congrArg _ (if_neg (by rw [c_35]; decide)).symm) k9 (fun y => upd_upd g (10 * i + c) _ y) hM6 (hs.tr hT13)
      · refine aw_iconst (pc' := 39) (v := 1) eX7_fits_38 rfl (by decide) ?_
        refine aw_iload (pc' := 41) eX7_fits_39 rfl rfl ?_
        refine aw_ishl (pc' := 42) eX7_fits_41 rfl ?_
        refine aw_goto eX7_fits_42 (by decide) (tgt := 46) ?_
        refine aw_ior (pc' := 47) eX7_fits_46 rfl ?_
        refine aw_istore (pc' := 49) eX7_fits_47 rfl (by decide) ?_
        dsimp only [zst, zst2, zcut]
        refine aw_iinc (pc' := 52) eX7_fits_49 rfl rfl rfl (by decide) ?_
        dsimp only [zst, zst2, zcut]
        refine aw_goto eX7_fits_52 (by decide) (tgt := 14) ?_
        have c_35 := zb_ne0.mp c_35
        exact ih (w + 1 - (v + 1)) (by omega) (v + 1) _ _ _ _ _ rfl (by omega) (nI_inc v) (by rw [sFit1]; exact congrArg _ (if_pos c_35).symm) k9 (fun y => upd_upd g (10 * i + c) _ y) hM6 (hs.tr hT13)
theorem c_X7_fits (hk : MK n g U U1) (hM : MAt h u U1) (hz : mZ U) (hg : gOk g m t) (hn : 1 ≤ n) {a : Nat} (hgS : gS g a) {i c w : Nat} (hi : i < 6) (hc : c < 6) (hw : w ≤ 30) (ht6 : t ≤ 1000000000) (hd : 27 ≤ d) : Ct l G mX7_fits yX7_fits d 0 0 [.ref u, .int (nI i), .int (nI c), .int (nI w)] h (fun r h' => r = some (.int (sFit1 (mRd U) g m a t (10 * i + c) (w + 1))) ∧ ∃ U', MAt h' u U' ∧ MK n g U U' ∧ Same u 19 h h') := by
  refine ct_of (lv := [some (.ref u), some (.int (nI i)), some (.int (nI c)), some (.int (nI w)), none, none, none]) (by decide +kernel) rfl (fun z => by cases z) (fun _ => rfl) (fun _ => Nat.le_of_ble_eq_true rfl) ?_
  refine aw_aload_n (pc' := 1) eX7_fits_0 rfl rfl trivial ?_
  refine aw_iload_n (pc' := 2) eX7_fits_1 rfl rfl ?_
  refine aw_iload_n (pc' := 3) eX7_fits_2 rfl rfl ?_
  refine aw_callv (pc' := 6) (nn := 2) (c_one (d := d - 1) hM i c (by omega) (by omega)) eX7_fits_3 rfl ⟨q901, q904, q62⟩ q903 q22 ⟨rfl, by decide +kernel, by decide +kernel, by decide +kernel⟩ rfl (by rw [hM.2.1]; exact ⟨rfl, rfl⟩) rfl ⟨by omega, by decide⟩ ⟨by omega, by omega⟩ rfl (Nat.le_of_ble_eq_true rfl) (fun v1 h2 hq3 => ?_)
  obtain ⟨rfl, rfl⟩ := hq3
  dsimp only [Option.toList, List.cons_append, List.nil_append]
  refine aw_istore (pc' := 8) eX7_fits_6 rfl (by decide) ?_
  dsimp only [zst, zst2, zcut]
  refine aw_iconst (pc' := 9) (v := 0) eX7_fits_8 rfl (by decide) ?_
  refine aw_istore (pc' := 11) eX7_fits_9 rfl (by decide) ?_
  dsimp only [zst, zst2, zcut]
  refine aw_iconst (pc' := 12) (v := 0) eX7_fits_11 rfl (by decide) ?_
  refine aw_istore (pc' := 14) eX7_fits_12 rfl (by decide) ?_
  dsimp only [zst, zst2, zcut]
  refine lp_X7_fits (n := n) (U := U) (g := g) hz hg hn hgS hi hc hw ht6 hd (fun h9 V9 g9 y9 m9 k9 s9 hg9 => ?_) (w + 1) 0 _ _ _ _ _ (by omega) (by omega) rfl rfl hk (fun _ => rfl) hM Same.rf
  refine aw_aload_n (pc' := 56) eX7_fits_55 rfl rfl trivial ?_
  refine aw_iload_n (pc' := 57) eX7_fits_56 rfl rfl ?_
  refine aw_iload_n (pc' := 58) eX7_fits_57 rfl rfl ?_
  refine aw_iload (pc' := 60) eX7_fits_58 rfl rfl ?_
  refine aw_callv (pc' := 63) (nn := 3) (c_change (d := d - 1) m9 i c _ (by omega) (by omega)) eX7_fits_60 rfl ⟨q986, q989, q62⟩ q988 q43 ⟨rfl, by decide +kernel, by decide +kernel, by decide +kernel⟩ rfl (by rw [m9.2.1]; exact ⟨rfl, rfl⟩) rfl ⟨by omega, by decide⟩ ⟨by omega, by omega⟩ rfl (Nat.le_of_ble_eq_true rfl) (fun v3 h4 hq5 => ?_)
  obtain ⟨rfl, hM1, hs2⟩ := hq5
  have hT6 := s9.tr hs2
  dsimp only [Option.toList, List.cons_append, List.nil_append]
  refine aw_pop (pc' := 64) eX7_fits_63 rfl rfl ?_
  refine aw_iload (pc' := 66) eX7_fits_64 rfl rfl ?_
  refine aw_ret (v := some (.int _)) eX7_fits_66 ⟨rfl, rfl⟩ (by omega) (by omega) rfl ?_
  have kz : MK n g U (mup V9 1 (10 * i + c) (U1.1 1 (10 * i + c))) := by
    have z := k9.up (k := 10 * i + c) (x := U1.1 1 (10 * i + c))
    rw [hg9, hk.1, mg_id'] at z
    rw [hk.1]
    exact z
  exact ⟨rfl, _, hM1, kz, hT6⟩
end M20
