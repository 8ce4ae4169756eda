/-! the class AmberGrains: tapes; judging -/
section C21
variable {F : FT} {l : Launch} {G : GT} {d m t a : Nat} {g : Nat → Int32} {h : Hp} {Q : Option Value → Hp → Prop} {bi se : Int32} {U : MS}
/-- the class's tapes are the model's -/
def TpR (h : Hp) (S N : Nat → Int32) (V : Nat → Int64) : Prop := ∃ fa, OA h 62 (.inl (4, (6, .inr (.inr (.inr (.inr fa)))))) ∧ (∀ t, t < 6 → fa t = some (65 + 2 * t)) ∧ ∀ t, t < 6 → ∃ f, TAt h (65 + 2 * t) (S t) (N t) f ∧ ∀ i, i < 60 → f i = V (60 * t + i)
theorem TpR.fr {h' : Hp} {S N : Nat → Int32} {V : Nat → Int64} {w n : Nat} (hT : TpR h S N V) (hs : Same w n h h') (hd : 77 ≤ w ∨ w + n ≤ 62) : TpR h' S N V := by
  obtain ⟨fa, h1, h2, h3⟩ := hT
  refine ⟨fa, h1.fr hs (by omega), h2, fun t ht => ?_⟩
  obtain ⟨f, h4, h5⟩ := h3 t ht
  exact ⟨f, h4.fr hs (by omega), h5⟩
theorem TpR.put {h' : Hp} {S N : Nat → Int32} {V : Nat → Int64} {t : Nat} {s n : Int32} {f V' : Nat → Int64} (hT : TpR h S N V) (ht : t < 6) (hs : Same (65 + 2 * t) 2 h h') (hR : TAt h' (65 + 2 * t) s n f) (e3 : ∀ i, i < 60 → f i = V' (60 * t + i)) (e4 : ∀ u, u < 6 → u ≠ t → ∀ i, i < 60 → V' (60 * u + i) = V (60 * u + i)) : TpR h' (upd S t s) (upd N t n) V' := by
  obtain ⟨fa, h1, h2, h3⟩ := hT
  refine ⟨fa, h1.fr hs (by omega), h2, fun u hu => ?_⟩
  by_cases c : u = t
  · subst c
    rw [upd_eq, upd_eq]
    exact ⟨f, hR, e3⟩
  · rw [upd_ne c, upd_ne c]
    obtain ⟨f2, h4, h5⟩ := h3 u hu
    exact ⟨f2, h4.fr hs (by omega), fun i hi => (h5 i hi).trans (e4 u hu c i hi).symm⟩
theorem upd_id {f : Nat → Int32} {t : Nat} : upd f t (f t) = f := by
  funext j
  by_cases c : j = t
  · rw [c, upd_eq]
  · rw [upd_ne c]
theorem tz_in {i : Int32} {k : Nat} (hk : k ≤ 60) : bIn i 0 (nI k - 1) = true ↔ ∃ q, q < k ∧ i = nI q := by
  cases k with
  | zero =>
    rw [bIn_toInt, show (nI 0 - 1).toInt = -1 from by decide, show (0 : Int32).toInt = 0 from by decide]
    constructor
    · intro z; omega
    · rintro ⟨q, hq, _⟩; omega
  | succ k =>
    rw [show nI (k + 1) - 1 = nI k from nI_subn (a := k) (b := 1), bIn_lit (by omega)]
    constructor
    · rintro ⟨q, hq, e⟩; exact ⟨q, by omega, e⟩
    · rintro ⟨q, hq, e⟩; exact ⟨q, by omega, e⟩
theorem i_lt {i : Int32} {k : Nat} (hk : k ≤ 200) (c1 : ¬ i < 0) (c2 : i < nI k) : ∃ q, q < k ∧ i = nI q := by
  have a1 : 0 ≤ i.toInt := by
    have := Int32.le_iff_toInt_le.mp (Int32.not_lt.mp c1)
    rwa [show (0 : Int32).toInt = 0 from by decide] at this
  have a2 : i.toInt < k := by
    have := Int32.lt_iff_toInt_lt.mp c2
    rwa [nI_toInt (by omega)] at this
  exact ⟨i.toInt.toNat, by omega, Int32.toInt_inj.mp (by rw [nI_toInt (by omega)]; omega)⟩
theorem tz_f {i : Int32} {k : Nat} (hk : k ≤ 60) (c : i < 0 ∨ ¬ i < nI k) : bIn i 0 (nI k - 1) = false := by
  rw [Bool.eq_false_iff]
  intro z
  obtain ⟨q, hq, rfl⟩ := (tz_in hk).mp z
  rcases c with c | c
  · have := Int32.lt_iff_toInt_lt.mp c
    rw [nI_toInt (by omega), show (0 : Int32).toInt = 0 from by decide] at this
    omega
  · exact c ((nI_ltI (by omega) (by omega)).mpr hq)
theorem tp_f1 {s : Int32} (c1 : s < 0) (c2 : ¬ s = -1) : bIn s (-1) 4 = false := by
  rw [Bool.eq_false_iff]
  intro z
  have y := (bIn_toInt.mp z).1
  have x := Int32.lt_iff_toInt_lt.mp c1
  rw [show (-1 : Int32).toInt = -1 from by decide] at y
  rw [show (0 : Int32).toInt = 0 from by decide] at x
  exact c2 (Int32.toInt_inj.mp (by rw [show (-1 : Int32).toInt = -1 from by decide]; omega))
theorem tp_t {s : Int32} (c1 : ¬ s < 0) (c2 : ¬ s > 4) : bIn s (-1) 4 = true := by
  have x := Int32.le_iff_toInt_le.mp (Int32.not_lt.mp c1)
  have y := Int32.le_iff_toInt_le.mp (Int32.not_lt.mp c2)
  rw [show (0 : Int32).toInt = 0 from by decide] at x
  rw [bIn_toInt, show (-1 : Int32).toInt = -1 from by decide]
  exact ⟨by omega, y⟩
theorem tp_n {n : Int32} (c1 : n ≥ 0) (c2 : n ≤ 60) : (if (0 : Int32) < (if (60 : Int32) < n then 60 else n) then (if (60 : Int32) < n then 60 else n) else 0) = n := by
  rw [if_neg (Int32.not_lt.mpr c2)]
  by_cases c : (0 : Int32) < n
  · rw [if_pos c]
  · rw [if_neg c]
    exact Int32.le_antisymm c1 (Int32.not_lt.mp c)
theorem tp_0 {n : Int32} (h : n = 0) : (if (0 : Int32) < (if (60 : Int32) < n then 60 else n) then (if (60 : Int32) < n then 60 else n) else 0) = 0 := by
  subst h; decide
theorem sh_gt {i n : Int32} {q : Nat} (hq : q ≤ 60) (hi : ¬ i < 0) (hn : ¬ n < 0) : i > nI q - n ↔ nI q - i < n := by
  have hi2 := Int32.le_iff_toInt_le.mp (Int32.not_lt.mp hi)
  have hn2 := Int32.le_iff_toInt_le.mp (Int32.not_lt.mp hn)
  rw [show (0 : Int32).toInt = 0 from by decide] at hi2 hn2
  have hi3 := Int32.toInt_lt i
  have hn3 := Int32.toInt_lt n
  show nI q - n < i ↔ _
  rw [Int32.lt_iff_toInt_lt, Int32.lt_iff_toInt_lt, Int32.toInt_sub, Int32.toInt_sub, nI_toInt (by omega), Int.bmod_eq_of_le (by omega) (by omega), Int.bmod_eq_of_le (by omega) (by omega)]
  omega
theorem jd_lt {n p : Nat} {i : Int32} (hn : n ≤ 60) (hp : p ≤ 6) (hi : ¬ i < 0) : i < nI n - nI p ↔ ¬ (nI n).toNatClampNeg ≤ i.toNatClampNeg + p := by
  have hi2 := Int32.le_iff_toInt_le.mp (Int32.not_lt.mp hi)
  rw [show (0 : Int32).toInt = 0 from by decide] at hi2
  have e : i = nI i.toInt.toNat := Int32.toInt_inj.mp (by rw [nI_toInt (by have := Int32.toInt_lt i; omega)]; omega)
  have hi3 := Int32.toInt_lt i
  have e2 : i.toNatClampNeg = i.toInt.toNat := by rw [e, nI_clamp (by omega), ← e]
  rw [nI_clamp (by omega), e2, Int32.lt_iff_toInt_lt, Int32.toInt_sub, nI_toInt (by omega), nI_toInt (by omega), Int.bmod_eq_of_le (by omega) (by omega)]
  omega

abbrev mX6_tape : MT := (RX6, cX6_tape, 4, (some .int), false)
theorem eX6_tape_0 : decode mX6_tape.2.1 0 = .ok (.iload_n 1, 1) := by decide +kernel
theorem eX6_tape_1 : decode mX6_tape.2.1 1 = .ok (.invokestatic 210, 3) := by decide +kernel
theorem eX6_tape_4 : decode mX6_tape.2.1 4 = .ok (.ifCond .ne 5, 3) := by decide +kernel
theorem eX6_tape_7 : decode mX6_tape.2.1 7 = .ok (.iconst (-1), 1) := by decide +kernel
theorem eX6_tape_8 : decode mX6_tape.2.1 8 = .ok (.ireturn, 1) := by decide +kernel
theorem eX6_tape_9 : decode mX6_tape.2.1 9 = .ok (.iload_n 2, 1) := by decide +kernel
theorem eX6_tape_10 : decode mX6_tape.2.1 10 = .ok (.iconst (-1), 1) := by decide +kernel
theorem eX6_tape_11 : decode mX6_tape.2.1 11 = .ok (.if_icmp .ne 16, 3) := by decide +kernel
theorem eX6_tape_14 : decode mX6_tape.2.1 14 = .ok (.aload_n 0, 1) := by decide +kernel
theorem eX6_tape_15 : decode mX6_tape.2.1 15 = .ok (.getfield 66, 3) := by decide +kernel
theorem eX6_tape_18 : decode mX6_tape.2.1 18 = .ok (.iload_n 1, 1) := by decide +kernel
theorem eX6_tape_19 : decode mX6_tape.2.1 19 = .ok (.aaload, 1) := by decide +kernel
theorem eX6_tape_20 : decode mX6_tape.2.1 20 = .ok (.iconst (-1), 1) := by decide +kernel
theorem eX6_tape_21 : decode mX6_tape.2.1 21 = .ok (.iconst 0, 1) := by decide +kernel
theorem eX6_tape_22 : decode mX6_tape.2.1 22 = .ok (.invokevirtual 243, 3) := by decide +kernel
theorem eX6_tape_25 : decode mX6_tape.2.1 25 = .ok (.iconst 1, 1) := by decide +kernel
theorem eX6_tape_26 : decode mX6_tape.2.1 26 = .ok (.ireturn, 1) := by decide +kernel
theorem eX6_tape_27 : decode mX6_tape.2.1 27 = .ok (.iload_n 2, 1) := by decide +kernel
theorem eX6_tape_28 : decode mX6_tape.2.1 28 = .ok (.ifCond .lt 14, 3) := by decide +kernel
theorem eX6_tape_31 : decode mX6_tape.2.1 31 = .ok (.iload_n 2, 1) := by decide +kernel
theorem eX6_tape_32 : decode mX6_tape.2.1 32 = .ok (.iconst 4, 1) := by decide +kernel
theorem eX6_tape_33 : decode mX6_tape.2.1 33 = .ok (.if_icmp .gt 9, 3) := by decide +kernel
theorem eX6_tape_36 : decode mX6_tape.2.1 36 = .ok (.iload_n 3, 1) := by decide +kernel
theorem eX6_tape_37 : decode mX6_tape.2.1 37 = .ok (.bipush 60, 2) := by decide +kernel
theorem eX6_tape_39 : decode mX6_tape.2.1 39 = .ok (.if_icmp .le 6, 3) := by decide +kernel
theorem eX6_tape_42 : decode mX6_tape.2.1 42 = .ok (.bipush (-2), 2) := by decide +kernel
theorem eX6_tape_44 : decode mX6_tape.2.1 44 = .ok (.ireturn, 1) := by decide +kernel
theorem eX6_tape_45 : decode mX6_tape.2.1 45 = .ok (.iload_n 3, 1) := by decide +kernel
theorem eX6_tape_46 : decode mX6_tape.2.1 46 = .ok (.ifCond .ge 6, 3) := by decide +kernel
theorem eX6_tape_49 : decode mX6_tape.2.1 49 = .ok (.bipush (-14), 2) := by decide +kernel
theorem eX6_tape_51 : decode mX6_tape.2.1 51 = .ok (.ireturn, 1) := by decide +kernel
theorem eX6_tape_52 : decode mX6_tape.2.1 52 = .ok (.aload_n 0, 1) := by decide +kernel
theorem eX6_tape_53 : decode mX6_tape.2.1 53 = .ok (.getfield 66, 3) := by decide +kernel
theorem eX6_tape_56 : decode mX6_tape.2.1 56 = .ok (.iload_n 1, 1) := by decide +kernel
theorem eX6_tape_57 : decode mX6_tape.2.1 57 = .ok (.aaload, 1) := by decide +kernel
theorem eX6_tape_58 : decode mX6_tape.2.1 58 = .ok (.iload_n 2, 1) := by decide +kernel
theorem eX6_tape_59 : decode mX6_tape.2.1 59 = .ok (.iload_n 3, 1) := by decide +kernel
theorem eX6_tape_60 : decode mX6_tape.2.1 60 = .ok (.invokevirtual 243, 3) := by decide +kernel
theorem eX6_tape_63 : decode mX6_tape.2.1 63 = .ok (.iconst 1, 1) := by decide +kernel
theorem eX6_tape_64 : decode mX6_tape.2.1 64 = .ok (.ireturn, 1) := by decide +kernel
theorem c_X6_tape (hO : OA h 16 (.inr (6, afs bi se))) (hU : TpR h (U.1 15) (U.1 16) (U.2.2 17)) (hT : mT U) (tl s n : Int32) (hd : 2 ≤ d) : Ct l G mX6_tape yX6_tape d 0 0 [.ref 16, .int tl, .int s, .int n] h (fun r h' => r = some (.int (sTape U tl s n).1) ∧ TpR h' ((sTape U tl s n).2.1 15) ((sTape U tl s n).2.1 16) ((sTape U tl s n).2.2.2 17) ∧ Same 65 12 h h') := by
  refine ct_of (lv := [some (.ref 16), some (.int tl), some (.int s), some (.int n)]) (by decide +kernel) rfl (fun z => by cases z) (fun _ => rfl) (fun _ => Nat.le_of_ble_eq_true rfl) ?_
  have hU0 := hU
  obtain ⟨fa, hTA, hTf, hTp⟩ := hU
  refine aw_iload_n (pc' := 1) eX6_tape_0 rfl rfl ?_
  refine aw_calls (pc' := 4) (nn := 1) (c_X6_isTape (d := d - 1) _ (by omega)) eX6_tape_1 rfl ⟨q694, q696, q55⟩ q695 ⟨by decide +kernel, by decide +kernel, by decide +kernel⟩ rfl ⟨by omega, by decide⟩ ⟨by omega, by omega⟩ rfl (Nat.le_of_ble_eq_true rfl) (fun v1 h2 hq3 => ?_)
  obtain ⟨rfl, rfl⟩ := hq3
  dsimp only [Option.toList, List.cons_append, List.nil_append]
  refine aw_if_ne (pc' := 7) (tgt := 9) eX6_tape_4 rfl (by decide) (fun c_4 => ?_) (fun c_4 => ?_)
  · have hb9 := zb_ne0.mp c_4
    obtain ⟨b, hb, rfl⟩ := (bIn_lit (N := 5) (by omega)).mp hb9
    have clb : (nI b).toNatClampNeg = b := nI_clamp (by omega)
    obtain ⟨f, hX, hf⟩ := hTp b (by omega)
    obtain ⟨⟨nb, hnb, enb⟩, hsb⟩ := hT b (by omega)
    refine aw_iload_n (pc' := 10) eX6_tape_9 rfl rfl ?_
    refine aw_iconst (pc' := 11) (v := -1) eX6_tape_10 rfl (by decide) ?_
    refine aw_icmp_ne (pc' := 14) (tgt := 27) eX6_tape_11 rfl (by decide) (fun c_11 => ?_) (fun c_11 => ?_)
    · refine aw_iload_n (pc' := 28) eX6_tape_27 rfl rfl ?_
      refine aw_if_lt (pc' := 31) (tgt := 42) eX6_tape_28 rfl (by decide) (fun c_28 => ?_) (fun c_28 => ?_)
      · refine aw_bipush (pc' := 44) (v := -2) eX6_tape_42 rfl (by decide) ?_
        refine aw_ret (v := some (.int _)) eX6_tape_44 ⟨rfl, rfl⟩ (by omega) (by omega) rfl ?_
        rw [sTape, if_pos hb9, if_neg (fun z => by rw [(tp_f1 c_28 c_11)] at z; exact absurd z.1 (by decide))]
        exact ⟨rfl, hU0, Same.rf⟩
      · refine aw_iload_n (pc' := 32) eX6_tape_31 rfl rfl ?_
        refine aw_iconst (pc' := 33) (v := 4) eX6_tape_32 rfl (by decide) ?_
        refine aw_icmp_gt (pc' := 36) (tgt := 42) eX6_tape_33 rfl (by decide) (fun c_33 => ?_) (fun c_33 => ?_)
        · refine aw_bipush (pc' := 44) (v := -2) eX6_tape_42 rfl (by decide) ?_
          refine aw_ret (v := some (.int _)) eX6_tape_44 ⟨rfl, rfl⟩ (by omega) (by omega) rfl ?_
          rw [sTape, if_pos hb9, if_neg (fun z => by rw [(bI_fgt c_33)] at z; exact absurd z.1 (by decide))]
          exact ⟨rfl, hU0, Same.rf⟩
        · refine aw_iload_n (pc' := 37) eX6_tape_36 rfl rfl ?_
          refine aw_bipush (pc' := 39) (v := 60) eX6_tape_37 rfl (by decide) ?_
          refine aw_icmp_le (pc' := 42) (tgt := 45) eX6_tape_39 rfl (by decide) (fun c_39 => ?_) (fun c_39 => ?_)
          · refine aw_iload_n (pc' := 46) eX6_tape_45 rfl rfl ?_
            refine aw_if_ge (pc' := 49) (tgt := 52) eX6_tape_46 rfl (by decide) (fun c_46 => ?_) (fun c_46 => ?_)
            · refine aw_aload_n (pc' := 53) eX6_tape_52 rfl rfl trivial ?_
              refine aw_Oget (pc' := 56) (ci := 6) (kf := 12) (N := 14) (.ref 62) hO eX6_tape_53 rfl rfl rfl inX6 (by decide) q262 rfl ?_
              refine aw_iload_n (pc' := 57) eX6_tape_56 rfl rfl ?_
              refine aw_Aal (pc' := 58) b hTA eX6_tape_57 rfl (show vp_in _ 6 from vp_in_nI (by omega) (by omega)) (nI_clamp (by omega)) (hTf b (by omega)) ?_
              refine aw_iload_n (pc' := 59) eX6_tape_58 rfl rfl ?_
              refine aw_iload_n (pc' := 60) eX6_tape_59 rfl rfl ?_
              refine aw_callv (pc' := 63) (nn := 2) (c_X3_becomesRow (d := d - 1) hX _ _ (by omega)) eX6_tape_60 rfl ⟨q754, q757, q61⟩ q755 q756 ⟨rfl, by decide +kernel, by decide +kernel, by decide +kernel⟩ rfl hX.ob rfl ⟨by omega, by decide⟩ ⟨by omega, by omega⟩ rfl (Nat.le_of_ble_eq_true rfl) (fun v6 h7 hq8 => ?_)
              obtain ⟨rfl, f9, hf9, hX4, hs5⟩ := hq8
              have hF9 := hO.fr hs5 (by omega)
              have hF10 := hTA.fr hs5 (by omega)
              dsimp only [Option.toList, List.cons_append, List.nil_append]
              refine aw_iconst (pc' := 64) (v := 1) eX6_tape_63 rfl (by decide) ?_
              refine aw_ret (v := some (.int _)) eX6_tape_64 ⟨rfl, rfl⟩ (by omega) (by omega) rfl ?_
              rw [sTape, if_pos hb9, if_pos ⟨tp_t c_28 c_33, Or.inr c_39⟩, if_neg (fun z => absurd z.2 (Int32.not_lt.mpr c_46))]
              rw [tp_n c_46 c_39] at hX4
              show some (Value.int 1) = some (Value.int 1) ∧ TpR _ (upd (U.1 15) (nI b).toNatClampNeg _) (upd (U.1 16) (nI b).toNatClampNeg _) _ ∧ _
              rw [clb, if_neg c_28]
              refine ⟨rfl, TpR.put hU0 (by omega) hs5 hX4 (fun i hi => ?_) (fun u hu hne i hi => ?_), (hs5).w (by omega) (by omega)⟩
              · rw [hf9 i hi]; show _ = if 60 * (nI b).toNatClampNeg ≤ 60 * b + i ∧ 60 * b + i < 60 * (nI b).toNatClampNeg + 60 then (0 : Int64) else _; rw [clb, if_pos (by omega)]
              · show (if 60 * (nI b).toNatClampNeg ≤ 60 * u + i ∧ 60 * u + i < 60 * (nI b).toNatClampNeg + 60 then (0 : Int64) else _) = _; rw [clb, if_neg (by omega)]
            · refine aw_bipush (pc' := 51) (v := -14) eX6_tape_49 rfl (by decide) ?_
              refine aw_ret (v := some (.int _)) eX6_tape_51 ⟨rfl, rfl⟩ (by omega) (by omega) rfl ?_
              rw [sTape, if_pos hb9, if_pos ⟨tp_t c_28 c_33, Or.inr c_39⟩, if_pos ⟨Int32.not_lt.mp c_28, Int32.not_le.mp c_46⟩]
              exact ⟨rfl, hU0, Same.rf⟩
          · refine aw_bipush (pc' := 44) (v := -2) eX6_tape_42 rfl (by decide) ?_
            refine aw_ret (v := some (.int _)) eX6_tape_44 ⟨rfl, rfl⟩ (by omega) (by omega) rfl ?_
            rw [sTape, if_pos hb9, if_neg (fun z => z.2.elim c_28 c_39)]
            exact ⟨rfl, hU0, Same.rf⟩
    · refine aw_aload_n (pc' := 15) eX6_tape_14 rfl rfl trivial ?_
      refine aw_Oget (pc' := 18) (ci := 6) (kf := 12) (N := 14) (.ref 62) hO eX6_tape_15 rfl rfl rfl inX6 (by decide) q262 rfl ?_
      refine aw_iload_n (pc' := 19) eX6_tape_18 rfl rfl ?_
      refine aw_Aal (pc' := 20) b hTA eX6_tape_19 rfl (show vp_in _ 6 from vp_in_nI (by omega) (by omega)) (nI_clamp (by omega)) (hTf b (by omega)) ?_
      refine aw_iconst (pc' := 21) (v := -1) eX6_tape_20 rfl (by decide) ?_
      refine aw_iconst (pc' := 22) (v := 0) eX6_tape_21 rfl (by decide) ?_
      refine aw_callv (pc' := 25) (nn := 2) (c_X3_becomesRow (d := d - 1) hX _ _ (by omega)) eX6_tape_22 rfl ⟨q754, q757, q61⟩ q755 q756 ⟨rfl, by decide +kernel, by decide +kernel, by decide +kernel⟩ rfl hX.ob rfl ⟨by omega, by decide⟩ ⟨by omega, by omega⟩ rfl (Nat.le_of_ble_eq_true rfl) (fun v13 h14 hq15 => ?_)
      obtain ⟨rfl, f9, hf9, hX11, hs12⟩ := hq15
      have hF16 := hO.fr hs12 (by omega)
      have hF17 := hTA.fr hs12 (by omega)
      dsimp only [Option.toList, List.cons_append, List.nil_append]
      refine aw_iconst (pc' := 26) (v := 1) eX6_tape_25 rfl (by decide) ?_
      refine aw_ret (v := some (.int _)) eX6_tape_26 ⟨rfl, rfl⟩ (by omega) (by omega) rfl ?_
      subst c_11
      rw [sTape, if_pos hb9, if_pos ⟨by decide, Or.inl (by decide)⟩, if_neg (fun z => absurd z.1 (by decide))]
      rw [tp_0 (by decide)] at hX11
      show some (Value.int 1) = some (Value.int 1) ∧ TpR _ (upd (U.1 15) (nI b).toNatClampNeg _) (upd (U.1 16) (nI b).toNatClampNeg _) _ ∧ _
      rw [clb, if_pos (show (-1 : Int32) < 0 by decide)]
      refine ⟨rfl, TpR.put hU0 (by omega) hs12 hX11 (fun i hi => ?_) (fun u hu hne i hi => ?_), (hs12).w (by omega) (by omega)⟩
      · rw [hf9 i hi]; show _ = if 60 * (nI b).toNatClampNeg ≤ 60 * b + i ∧ 60 * b + i < 60 * (nI b).toNatClampNeg + 60 then (0 : Int64) else _; rw [clb, if_pos (by omega)]
      · show (if 60 * (nI b).toNatClampNeg ≤ 60 * u + i ∧ 60 * u + i < 60 * (nI b).toNatClampNeg + 60 then (0 : Int64) else _) = _; rw [clb, if_neg (by omega)]
  · refine aw_iconst (pc' := 8) (v := -1) eX6_tape_7 rfl (by decide) ?_
    refine aw_ret (v := some (.int _)) eX6_tape_8 ⟨rfl, rfl⟩ (by omega) (by omega) rfl ?_
    rw [sTape, if_neg (by rw [(zb_eq0.mp c_4)]; decide)]
    exact ⟨rfl, hU0, Same.rf⟩
abbrev mX6_item : MT := (RX6, cX6_item, 6, (some .int), false)
theorem eX6_item_0 : decode mX6_item.2.1 0 = .ok (.iload_n 1, 1) := by decide +kernel
theorem eX6_item_1 : decode mX6_item.2.1 1 = .ok (.invokestatic 210, 3) := by decide +kernel
theorem eX6_item_4 : decode mX6_item.2.1 4 = .ok (.ifCond .ne 5, 3) := by decide +kernel
theorem eX6_item_7 : decode mX6_item.2.1 7 = .ok (.iconst (-1), 1) := by decide +kernel
theorem eX6_item_8 : decode mX6_item.2.1 8 = .ok (.ireturn, 1) := by decide +kernel
theorem eX6_item_9 : decode mX6_item.2.1 9 = .ok (.aload_n 0, 1) := by decide +kernel
theorem eX6_item_10 : decode mX6_item.2.1 10 = .ok (.getfield 66, 3) := by decide +kernel
theorem eX6_item_13 : decode mX6_item.2.1 13 = .ok (.iload_n 1, 1) := by decide +kernel
theorem eX6_item_14 : decode mX6_item.2.1 14 = .ok (.aaload, 1) := by decide +kernel
theorem eX6_item_15 : decode mX6_item.2.1 15 = .ok (.astore 5, 2) := by decide +kernel
theorem eX6_item_17 : decode mX6_item.2.1 17 = .ok (.aload 5, 2) := by decide +kernel
theorem eX6_item_19 : decode mX6_item.2.1 19 = .ok (.getfield 213, 3) := by decide +kernel
theorem eX6_item_22 : decode mX6_item.2.1 22 = .ok (.iconst (-1), 1) := by decide +kernel
theorem eX6_item_23 : decode mX6_item.2.1 23 = .ok (.if_icmp .ne 6, 3) := by decide +kernel
theorem eX6_item_26 : decode mX6_item.2.1 26 = .ok (.bipush (-11), 2) := by decide +kernel
theorem eX6_item_28 : decode mX6_item.2.1 28 = .ok (.ireturn, 1) := by decide +kernel
theorem eX6_item_29 : decode mX6_item.2.1 29 = .ok (.iload_n 2, 1) := by decide +kernel
theorem eX6_item_30 : decode mX6_item.2.1 30 = .ok (.ifCond .lt 12, 3) := by decide +kernel
theorem eX6_item_33 : decode mX6_item.2.1 33 = .ok (.iload_n 2, 1) := by decide +kernel
theorem eX6_item_34 : decode mX6_item.2.1 34 = .ok (.aload 5, 2) := by decide +kernel
theorem eX6_item_36 : decode mX6_item.2.1 36 = .ok (.getfield 216, 3) := by decide +kernel
theorem eX6_item_39 : decode mX6_item.2.1 39 = .ok (.if_icmp .lt 6, 3) := by decide +kernel
theorem eX6_item_42 : decode mX6_item.2.1 42 = .ok (.bipush (-13), 2) := by decide +kernel
theorem eX6_item_44 : decode mX6_item.2.1 44 = .ok (.ireturn, 1) := by decide +kernel
theorem eX6_item_45 : decode mX6_item.2.1 45 = .ok (.aload 5, 2) := by decide +kernel
theorem eX6_item_47 : decode mX6_item.2.1 47 = .ok (.getfield 217, 3) := by decide +kernel
theorem eX6_item_50 : decode mX6_item.2.1 50 = .ok (.iload_n 2, 1) := by decide +kernel
theorem eX6_item_51 : decode mX6_item.2.1 51 = .ok (.aload 5, 2) := by decide +kernel
theorem eX6_item_53 : decode mX6_item.2.1 53 = .ok (.lload_n 3, 1) := by decide +kernel
theorem eX6_item_54 : decode mX6_item.2.1 54 = .ok (.invokevirtual 246, 3) := by decide +kernel
theorem eX6_item_57 : decode mX6_item.2.1 57 = .ok (.lastore, 1) := by decide +kernel
theorem eX6_item_58 : decode mX6_item.2.1 58 = .ok (.iconst 1, 1) := by decide +kernel
theorem eX6_item_59 : decode mX6_item.2.1 59 = .ok (.ireturn, 1) := by decide +kernel
theorem c_X6_item (hO : OA h 16 (.inr (6, afs bi se))) (hU : TpR h (U.1 15) (U.1 16) (U.2.2 17)) (hT : mT U) (tl i : Int32) (v : Int64) (hd : 1 ≤ d) : Ct l G mX6_item yX6_item d 0 0 [.ref 16, .int tl, .int i, .long v] h (fun r h' => r = some (.int (sItem U tl i v).1) ∧ TpR h' ((sItem U tl i v).2.1 15) ((sItem U tl i v).2.1 16) ((sItem U tl i v).2.2.2 17) ∧ Same 65 12 h h') := by
  refine ct_of (lv := [some (.ref 16), some (.int tl), some (.int i), some (.long v), none, none]) (by decide +kernel) rfl (fun z => by cases z) (fun _ => rfl) (fun _ => Nat.le_of_ble_eq_true rfl) ?_
  have hU0 := hU
  obtain ⟨fa, hTA, hTf, hTp⟩ := hU
  refine aw_iload_n (pc' := 1) eX6_item_0 rfl rfl ?_
  refine aw_calls (pc' := 4) (nn := 1) (c_X6_isTape (d := d - 1) _ (by omega)) eX6_item_1 rfl ⟨q694, q696, q55⟩ q695 ⟨by decide +kernel, by decide +kernel, by decide +kernel⟩ rfl ⟨by omega, by decide⟩ ⟨by omega, by omega⟩ rfl (Nat.le_of_ble_eq_true rfl) (fun v1 h2 hq3 => ?_)
  obtain ⟨rfl, rfl⟩ := hq3
  dsimp only [Option.toList, List.cons_append, List.nil_append]
  refine aw_if_ne (pc' := 7) (tgt := 9) eX6_item_4 rfl (by decide) (fun c_4 => ?_) (fun c_4 => ?_)
  · have hb9 := zb_ne0.mp c_4
    obtain ⟨b, hb, rfl⟩ := (bIn_lit (N := 5) (by omega)).mp hb9
    have clb : (nI b).toNatClampNeg = b := nI_clamp (by omega)
    obtain ⟨f, hX, hf⟩ := hTp b (by omega)
    obtain ⟨⟨nb, hnb, enb⟩, hsb⟩ := hT b (by omega)
    refine aw_aload_n (pc' := 10) eX6_item_9 rfl rfl trivial ?_
    refine aw_Oget (pc' := 13) (ci := 6) (kf := 12) (N := 14) (.ref 62) hO eX6_item_10 rfl rfl rfl inX6 (by decide) q262 rfl ?_
    refine aw_iload_n (pc' := 14) eX6_item_13 rfl rfl ?_
    refine aw_Aal (pc' := 15) b hTA eX6_item_14 rfl (show vp_in _ 6 from vp_in_nI (by omega) (by omega)) (nI_clamp (by omega)) (hTf b (by omega)) ?_
    refine aw_astore (pc' := 17) eX6_item_15 rfl (by decide) trivial ?_
    dsimp only [zst, zst2, zcut]
    refine aw_aload (pc' := 19) eX6_item_17 rfl rfl trivial ?_
    refine aw_OgetN (pc' := 22) (ci := 3) (kf := 1) (N := 3) (.int (U.1 15 b)) (hX).1 eX6_item_19 rfl rfl rfl inX3 (by decide) rfl (by decide) rfl ?_
    refine aw_iconst (pc' := 23) (v := -1) eX6_item_22 rfl (by decide) ?_
    refine aw_icmp_ne (pc' := 26) (tgt := 29) eX6_item_23 rfl (by decide) (fun c_23 => ?_) (fun c_23 => ?_)
    · obtain ⟨k, hk5, ek⟩ := hsb.resolve_left c_23
      have hng : ¬ U.1 15 b < 0 := by
        rw [ek, Int32.lt_iff_toInt_lt, nI_toInt (by omega), show (0 : Int32).toInt = 0 from by decide]
        omega
      have hX9 := hX
      rw [ek] at hX9
      refine aw_iload_n (pc' := 30) eX6_item_29 rfl rfl ?_
      refine aw_if_lt (pc' := 33) (tgt := 42) eX6_item_30 rfl (by decide) (fun c_30 => ?_) (fun c_30 => ?_)
      · refine aw_bipush (pc' := 44) (v := -13) eX6_item_42 rfl (by decide) ?_
        refine aw_ret (v := some (.int _)) eX6_item_44 ⟨rfl, rfl⟩ (by omega) (by omega) rfl ?_
        rw [sItem, if_pos hb9, clb, if_neg hng, if_neg (by rw [(show bIn i 0 (U.1 16 b - 1) = false by rw [enb]; exact tz_f hnb (Or.inl c_30))]; decide)]
        exact ⟨rfl, hU0, Same.rf⟩
      · refine aw_iload_n (pc' := 34) eX6_item_33 rfl rfl ?_
        refine aw_aload (pc' := 36) eX6_item_34 rfl rfl trivial ?_
        refine aw_OgetN (pc' := 39) (ci := 3) (kf := 2) (N := 3) (.int (U.1 16 b)) (hX).1 eX6_item_36 rfl rfl rfl inX3 (by decide) rfl (by decide) rfl ?_
        refine aw_icmp_lt (pc' := 42) (tgt := 45) eX6_item_39 rfl (by decide) (fun c_39 => ?_) (fun c_39 => ?_)
        · obtain ⟨q, hq, rfl⟩ := i_lt (by omega) c_30 (show _ < nI nb by rw [← enb]; exact c_39)
          have hq9 : bIn (nI q) 0 (U.1 16 b - 1) = true := by rw [enb]; exact (tz_in hnb).mpr ⟨q, hq, rfl⟩
          refine aw_aload (pc' := 47) eX6_item_45 rfl rfl trivial ?_
          refine aw_OgetN (pc' := 50) (ci := 3) (kf := 0) (N := 3) (.ref (65 + 2 * b + 1)) (hX).1 eX6_item_47 rfl rfl rfl inX3 (by decide) rfl (by decide) rfl ?_
          refine aw_iload_n (pc' := 51) eX6_item_50 rfl rfl ?_
          refine aw_aload (pc' := 53) eX6_item_51 rfl rfl trivial ?_
          refine aw_lload_n (pc' := 54) eX6_item_53 rfl rfl ?_
          refine aw_callv (pc' := 57) (nn := 1) (c_X3_fitted (d := d - 1) hk5 hX9 v (by omega)) eX6_item_54 rfl ⟨q767, q770, q61⟩ q768 q769 ⟨rfl, by decide +kernel, by decide +kernel, by decide +kernel⟩ rfl hX9.ob rfl ⟨by omega, by decide⟩ ⟨by omega, by omega⟩ rfl (Nat.le_of_ble_eq_true rfl) (fun v4 h5 hq6 => ?_)
          obtain ⟨rfl, rfl⟩ := hq6
          dsimp only [Option.toList, List.cons_append, List.nil_append]
          refine aw_Ajs (pc' := 58) q (hX).2 eX6_item_57 rfl (show vp_in _ 60 from vp_in_nI (by omega) (by omega)) (nI_clamp (by omega)) (fun h10 hA8 hs9 => ?_)
          have hX7 : TAt _ (65 + 2 * b) (U.1 15 b) (U.1 16 b) _ := ⟨(hX).1.fr hs9 (by omega), hA8⟩
          have hs9w := hs9.w (w2 := 65 + 2 * b) (n2 := 2) (by omega) (by omega)
          have hF11 := hO.fr hs9w (by omega)
          have hF12 := hTA.fr hs9w (by omega)
          refine aw_iconst (pc' := 59) (v := 1) eX6_item_58 rfl (by decide) ?_
          refine aw_ret (v := some (.int _)) eX6_item_59 ⟨rfl, rfl⟩ (by omega) (by omega) rfl ?_
          rw [sItem, if_pos hb9, clb, if_neg hng, if_pos hq9]
          have z := TpR.put (V' := (mupL U 17 (60 * b + (nI q).toNatClampNeg) (sFit (U.1 15 b) v)).2.2 17) hU0 (by omega) hs9w hX7 (fun i hi => ?_) (fun u hu hne i hi => ?_)
          · rw [upd_id, upd_id] at z
            exact ⟨rfl, z, (hs9w).w (by omega) (by omega)⟩
          · show vp_updL f q _ i = vp_updL (U.2.2 17) (60 * b + (nI q).toNatClampNeg) _ (60 * b + i)
            rw [nI_clamp (by omega), ek]
            unfold vp_updL
            by_cases c : i = q
            · rw [if_pos c, if_pos (by omega)]
            · rw [if_neg c, if_neg (by omega)]; exact hf i hi
          · show vp_updL (U.2.2 17) (60 * b + (nI q).toNatClampNeg) _ (60 * u + i) = _
            rw [nI_clamp (by omega)]
            unfold vp_updL
            rw [if_neg (by omega)]
        · refine aw_bipush (pc' := 44) (v := -13) eX6_item_42 rfl (by decide) ?_
          refine aw_ret (v := some (.int _)) eX6_item_44 ⟨rfl, rfl⟩ (by omega) (by omega) rfl ?_
          rw [sItem, if_pos hb9, clb, if_neg hng, if_neg (by rw [(show bIn i 0 (U.1 16 b - 1) = false by rw [enb] at c_39 ⊢; exact tz_f hnb (Or.inr c_39))]; decide)]
          exact ⟨rfl, hU0, Same.rf⟩
    · refine aw_bipush (pc' := 28) (v := -11) eX6_item_26 rfl (by decide) ?_
      refine aw_ret (v := some (.int _)) eX6_item_28 ⟨rfl, rfl⟩ (by omega) (by omega) rfl ?_
      rw [sItem, if_pos hb9, clb, if_pos (by rw [c_23]; decide)]
      exact ⟨rfl, hU0, Same.rf⟩
  · refine aw_iconst (pc' := 8) (v := -1) eX6_item_7 rfl (by decide) ?_
    refine aw_ret (v := some (.int _)) eX6_item_8 ⟨rfl, rfl⟩ (by omega) (by omega) rfl ?_
    rw [sItem, if_neg (by rw [(zb_eq0.mp c_4)]; decide)]
    exact ⟨rfl, hU0, Same.rf⟩
abbrev mX6_read : MT := (RX6, cX6_read, 3, (some .long), false)
theorem eX6_read_0 : decode mX6_read.2.1 0 = .ok (.iload_n 1, 1) := by decide +kernel
theorem eX6_read_1 : decode mX6_read.2.1 1 = .ok (.invokestatic 210, 3) := by decide +kernel
theorem eX6_read_4 : decode mX6_read.2.1 4 = .ok (.ifCond .eq 20, 3) := by decide +kernel
theorem eX6_read_7 : decode mX6_read.2.1 7 = .ok (.iload_n 2, 1) := by decide +kernel
theorem eX6_read_8 : decode mX6_read.2.1 8 = .ok (.ifCond .lt 16, 3) := by decide +kernel
theorem eX6_read_11 : decode mX6_read.2.1 11 = .ok (.iload_n 2, 1) := by decide +kernel
theorem eX6_read_12 : decode mX6_read.2.1 12 = .ok (.aload_n 0, 1) := by decide +kernel
theorem eX6_read_13 : decode mX6_read.2.1 13 = .ok (.getfield 66, 3) := by decide +kernel
theorem eX6_read_16 : decode mX6_read.2.1 16 = .ok (.iload_n 1, 1) := by decide +kernel
theorem eX6_read_17 : decode mX6_read.2.1 17 = .ok (.aaload, 1) := by decide +kernel
theorem eX6_read_18 : decode mX6_read.2.1 18 = .ok (.getfield 216, 3) := by decide +kernel
theorem eX6_read_21 : decode mX6_read.2.1 21 = .ok (.if_icmp .lt 7, 3) := by decide +kernel
theorem eX6_read_24 : decode mX6_read.2.1 24 = .ok (.ldc2_w 195, 3) := by decide +kernel
theorem eX6_read_27 : decode mX6_read.2.1 27 = .ok (.lreturn, 1) := by decide +kernel
theorem eX6_read_28 : decode mX6_read.2.1 28 = .ok (.aload_n 0, 1) := by decide +kernel
theorem eX6_read_29 : decode mX6_read.2.1 29 = .ok (.getfield 66, 3) := by decide +kernel
theorem eX6_read_32 : decode mX6_read.2.1 32 = .ok (.iload_n 1, 1) := by decide +kernel
theorem eX6_read_33 : decode mX6_read.2.1 33 = .ok (.aaload, 1) := by decide +kernel
theorem eX6_read_34 : decode mX6_read.2.1 34 = .ok (.getfield 217, 3) := by decide +kernel
theorem eX6_read_37 : decode mX6_read.2.1 37 = .ok (.iload_n 2, 1) := by decide +kernel
theorem eX6_read_38 : decode mX6_read.2.1 38 = .ok (.laload, 1) := by decide +kernel
theorem eX6_read_39 : decode mX6_read.2.1 39 = .ok (.lreturn, 1) := by decide +kernel
theorem c_X6_read (hO : OA h 16 (.inr (6, afs bi se))) (hU : TpR h (U.1 15) (U.1 16) (U.2.2 17)) (hT : mT U) (tl i : Int32) (hd : 1 ≤ d) : Ct l G mX6_read yX6_read d 0 0 [.ref 16, .int tl, .int i] h (fun r h' => r = some (.long (sRead U tl i)) ∧ h' = h) := by
  refine ct_of (lv := [some (.ref 16), some (.int tl), some (.int i)]) (by decide +kernel) rfl (fun z => by cases z) (fun _ => rfl) (fun _ => Nat.le_of_ble_eq_true rfl) ?_
  have hU0 := hU
  obtain ⟨fa, hTA, hTf, hTp⟩ := hU
  refine aw_iload_n (pc' := 1) eX6_read_0 rfl rfl ?_
  refine aw_calls (pc' := 4) (nn := 1) (c_X6_isTape (d := d - 1) _ (by omega)) eX6_read_1 rfl ⟨q694, q696, q55⟩ q695 ⟨by decide +kernel, by decide +kernel, by decide +kernel⟩ rfl ⟨by omega, by decide⟩ ⟨by omega, by omega⟩ rfl (Nat.le_of_ble_eq_true rfl) (fun v1 h2 hq3 => ?_)
  obtain ⟨rfl, rfl⟩ := hq3
  dsimp only [Option.toList, List.cons_append, List.nil_append]
  refine aw_if_eq (pc' := 7) (tgt := 24) eX6_read_4 rfl (by decide) (fun c_4 => ?_) (fun c_4 => ?_)
  · refine aw_ldc2 (pc' := 27) eX6_read_24 rfl q658 ?_
    refine aw_ret (v := some (.long _)) eX6_read_27 ⟨rfl, rfl⟩ (by omega) (by omega) rfl ?_
    rw [sRead, if_neg (fun z => by rw [(zb_eq0.mp c_4)] at z; exact absurd z.1 (by decide))]
    exact ⟨rfl, rfl⟩
  · have hb9 := zb_ne0.mp c_4
    obtain ⟨b, hb, rfl⟩ := (bIn_lit (N := 5) (by omega)).mp hb9
    have clb : (nI b).toNatClampNeg = b := nI_clamp (by omega)
    obtain ⟨f, hX, hf⟩ := hTp b (by omega)
    obtain ⟨⟨nb, hnb, enb⟩, hsb⟩ := hT b (by omega)
    refine aw_iload_n (pc' := 8) eX6_read_7 rfl rfl ?_
    refine aw_if_lt (pc' := 11) (tgt := 24) eX6_read_8 rfl (by decide) (fun c_8 => ?_) (fun c_8 => ?_)
    · refine aw_ldc2 (pc' := 27) eX6_read_24 rfl q658 ?_
      refine aw_ret (v := some (.long _)) eX6_read_27 ⟨rfl, rfl⟩ (by omega) (by omega) rfl ?_
      rw [sRead, if_neg (fun z => by rw [(show bIn i 0 (U.1 16 (nI b).toNatClampNeg - 1) = false by rw [clb, enb]; exact tz_f hnb (Or.inl c_8))] at z; exact absurd z.2 (by decide))]
      exact ⟨rfl, rfl⟩
    · refine aw_iload_n (pc' := 12) eX6_read_11 rfl rfl ?_
      refine aw_aload_n (pc' := 13) eX6_read_12 rfl rfl trivial ?_
      refine aw_Oget (pc' := 16) (ci := 6) (kf := 12) (N := 14) (.ref 62) hO eX6_read_13 rfl rfl rfl inX6 (by decide) q262 rfl ?_
      refine aw_iload_n (pc' := 17) eX6_read_16 rfl rfl ?_
      refine aw_Aal (pc' := 18) b hTA eX6_read_17 rfl (show vp_in _ 6 from vp_in_nI (by omega) (by omega)) (nI_clamp (by omega)) (hTf b (by omega)) ?_
      refine aw_OgetN (pc' := 21) (ci := 3) (kf := 2) (N := 3) (.int (U.1 16 b)) (hX).1 eX6_read_18 rfl rfl rfl inX3 (by decide) rfl (by decide) rfl ?_
      refine aw_icmp_lt (pc' := 24) (tgt := 28) eX6_read_21 rfl (by decide) (fun c_21 => ?_) (fun c_21 => ?_)
      · obtain ⟨q, hq, rfl⟩ := i_lt (by omega) c_8 (show _ < nI nb by rw [← enb]; exact c_21)
        refine aw_aload_n (pc' := 29) eX6_read_28 rfl rfl trivial ?_
        refine aw_Oget (pc' := 32) (ci := 6) (kf := 12) (N := 14) (.ref 62) hO eX6_read_29 rfl rfl rfl inX6 (by decide) q262 rfl ?_
        refine aw_iload_n (pc' := 33) eX6_read_32 rfl rfl ?_
        refine aw_Aal (pc' := 34) b hTA eX6_read_33 rfl (show vp_in _ 6 from vp_in_nI (by omega) (by omega)) (nI_clamp (by omega)) (hTf b (by omega)) ?_
        refine aw_OgetN (pc' := 37) (ci := 3) (kf := 0) (N := 3) (.ref (65 + 2 * b + 1)) (hX).1 eX6_read_34 rfl rfl rfl inX3 (by decide) rfl (by decide) rfl ?_
        refine aw_iload_n (pc' := 38) eX6_read_37 rfl rfl ?_
        refine aw_Ajl (pc' := 39) q (hX).2 eX6_read_38 rfl (show vp_in _ 60 from vp_in_nI (by omega) (by omega)) (nI_clamp (by omega)) ?_
        refine aw_ret (v := some (.long _)) eX6_read_39 ⟨rfl, rfl⟩ (by omega) (by omega) rfl ?_
        rw [sRead, if_pos ⟨hb9, by rw [clb, enb]; exact (tz_in hnb).mpr ⟨q, hq, rfl⟩⟩, clb, nI_clamp (n := q) (by omega), ← hf q (by omega)]
        exact ⟨rfl, rfl⟩
      · refine aw_ldc2 (pc' := 27) eX6_read_24 rfl q658 ?_
        refine aw_ret (v := some (.long _)) eX6_read_27 ⟨rfl, rfl⟩ (by omega) (by omega) rfl ?_
        rw [sRead, if_neg (fun z => by rw [(show bIn i 0 (U.1 16 (nI b).toNatClampNeg - 1) = false by rw [clb, enb]; rw [enb] at c_21; exact tz_f hnb (Or.inr c_21))] at z; exact absurd z.2 (by decide))]
        exact ⟨rfl, rfl⟩
abbrev mX6_shift : MT := (RX6, cX6_shift, 8, (some .int), false)
theorem eX6_shift_0 : decode mX6_shift.2.1 0 = .ok (.iload_n 1, 1) := by decide +kernel
theorem eX6_shift_1 : decode mX6_shift.2.1 1 = .ok (.invokestatic 210, 3) := by decide +kernel
theorem eX6_shift_4 : decode mX6_shift.2.1 4 = .ok (.ifCond .eq 10, 3) := by decide +kernel
theorem eX6_shift_7 : decode mX6_shift.2.1 7 = .ok (.iload_n 3, 1) := by decide +kernel
theorem eX6_shift_8 : decode mX6_shift.2.1 8 = .ok (.invokestatic 210, 3) := by decide +kernel
theorem eX6_shift_11 : decode mX6_shift.2.1 11 = .ok (.ifCond .ne 5, 3) := by decide +kernel
theorem eX6_shift_14 : decode mX6_shift.2.1 14 = .ok (.iconst (-1), 1) := by decide +kernel
theorem eX6_shift_15 : decode mX6_shift.2.1 15 = .ok (.ireturn, 1) := by decide +kernel
theorem eX6_shift_16 : decode mX6_shift.2.1 16 = .ok (.aload_n 0, 1) := by decide +kernel
theorem eX6_shift_17 : decode mX6_shift.2.1 17 = .ok (.getfield 66, 3) := by decide +kernel
theorem eX6_shift_20 : decode mX6_shift.2.1 20 = .ok (.iload_n 1, 1) := by decide +kernel
theorem eX6_shift_21 : decode mX6_shift.2.1 21 = .ok (.aaload, 1) := by decide +kernel
theorem eX6_shift_22 : decode mX6_shift.2.1 22 = .ok (.astore 6, 2) := by decide +kernel
theorem eX6_shift_24 : decode mX6_shift.2.1 24 = .ok (.aload_n 0, 1) := by decide +kernel
theorem eX6_shift_25 : decode mX6_shift.2.1 25 = .ok (.getfield 66, 3) := by decide +kernel
theorem eX6_shift_28 : decode mX6_shift.2.1 28 = .ok (.iload_n 3, 1) := by decide +kernel
theorem eX6_shift_29 : decode mX6_shift.2.1 29 = .ok (.aaload, 1) := by decide +kernel
theorem eX6_shift_30 : decode mX6_shift.2.1 30 = .ok (.astore 7, 2) := by decide +kernel
theorem eX6_shift_32 : decode mX6_shift.2.1 32 = .ok (.aload 6, 2) := by decide +kernel
theorem eX6_shift_34 : decode mX6_shift.2.1 34 = .ok (.getfield 213, 3) := by decide +kernel
theorem eX6_shift_37 : decode mX6_shift.2.1 37 = .ok (.iconst (-1), 1) := by decide +kernel
theorem eX6_shift_38 : decode mX6_shift.2.1 38 = .ok (.if_icmp .eq 12, 3) := by decide +kernel
theorem eX6_shift_41 : decode mX6_shift.2.1 41 = .ok (.aload 7, 2) := by decide +kernel
theorem eX6_shift_43 : decode mX6_shift.2.1 43 = .ok (.getfield 213, 3) := by decide +kernel
theorem eX6_shift_46 : decode mX6_shift.2.1 46 = .ok (.iconst (-1), 1) := by decide +kernel
theorem eX6_shift_47 : decode mX6_shift.2.1 47 = .ok (.if_icmp .ne 6, 3) := by decide +kernel
theorem eX6_shift_50 : decode mX6_shift.2.1 50 = .ok (.bipush (-11), 2) := by decide +kernel
theorem eX6_shift_52 : decode mX6_shift.2.1 52 = .ok (.ireturn, 1) := by decide +kernel
theorem eX6_shift_53 : decode mX6_shift.2.1 53 = .ok (.aload 6, 2) := by decide +kernel
theorem eX6_shift_55 : decode mX6_shift.2.1 55 = .ok (.getfield 213, 3) := by decide +kernel
theorem eX6_shift_58 : decode mX6_shift.2.1 58 = .ok (.aload 7, 2) := by decide +kernel
theorem eX6_shift_60 : decode mX6_shift.2.1 60 = .ok (.getfield 213, 3) := by decide +kernel
theorem eX6_shift_63 : decode mX6_shift.2.1 63 = .ok (.if_icmp .eq 6, 3) := by decide +kernel
theorem eX6_shift_66 : decode mX6_shift.2.1 66 = .ok (.bipush (-12), 2) := by decide +kernel
theorem eX6_shift_68 : decode mX6_shift.2.1 68 = .ok (.ireturn, 1) := by decide +kernel
theorem eX6_shift_69 : decode mX6_shift.2.1 69 = .ok (.iload 5, 2) := by decide +kernel
theorem eX6_shift_71 : decode mX6_shift.2.1 71 = .ok (.ifCond .lt 37, 3) := by decide +kernel
theorem eX6_shift_74 : decode mX6_shift.2.1 74 = .ok (.iload_n 2, 1) := by decide +kernel
theorem eX6_shift_75 : decode mX6_shift.2.1 75 = .ok (.ifCond .lt 33, 3) := by decide +kernel
theorem eX6_shift_78 : decode mX6_shift.2.1 78 = .ok (.iload 4, 2) := by decide +kernel
theorem eX6_shift_80 : decode mX6_shift.2.1 80 = .ok (.ifCond .lt 28, 3) := by decide +kernel
theorem eX6_shift_83 : decode mX6_shift.2.1 83 = .ok (.iload_n 2, 1) := by decide +kernel
theorem eX6_shift_84 : decode mX6_shift.2.1 84 = .ok (.aload 6, 2) := by decide +kernel
theorem eX6_shift_86 : decode mX6_shift.2.1 86 = .ok (.getfield 216, 3) := by decide +kernel
theorem eX6_shift_89 : decode mX6_shift.2.1 89 = .ok (.iload 5, 2) := by decide +kernel
theorem eX6_shift_91 : decode mX6_shift.2.1 91 = .ok (.isub, 1) := by decide +kernel
theorem eX6_shift_92 : decode mX6_shift.2.1 92 = .ok (.if_icmp .gt 16, 3) := by decide +kernel
theorem eX6_shift_95 : decode mX6_shift.2.1 95 = .ok (.iload 4, 2) := by decide +kernel
theorem eX6_shift_97 : decode mX6_shift.2.1 97 = .ok (.aload 7, 2) := by decide +kernel
theorem eX6_shift_99 : decode mX6_shift.2.1 99 = .ok (.getfield 216, 3) := by decide +kernel
theorem eX6_shift_102 : decode mX6_shift.2.1 102 = .ok (.iload 5, 2) := by decide +kernel
theorem eX6_shift_104 : decode mX6_shift.2.1 104 = .ok (.isub, 1) := by decide +kernel
theorem eX6_shift_105 : decode mX6_shift.2.1 105 = .ok (.if_icmp .le 6, 3) := by decide +kernel
theorem eX6_shift_108 : decode mX6_shift.2.1 108 = .ok (.bipush (-13), 2) := by decide +kernel
theorem eX6_shift_110 : decode mX6_shift.2.1 110 = .ok (.ireturn, 1) := by decide +kernel
theorem eX6_shift_111 : decode mX6_shift.2.1 111 = .ok (.aload 6, 2) := by decide +kernel
theorem eX6_shift_113 : decode mX6_shift.2.1 113 = .ok (.getfield 217, 3) := by decide +kernel
theorem eX6_shift_116 : decode mX6_shift.2.1 116 = .ok (.iload_n 2, 1) := by decide +kernel
theorem eX6_shift_117 : decode mX6_shift.2.1 117 = .ok (.aload 7, 2) := by decide +kernel
theorem eX6_shift_119 : decode mX6_shift.2.1 119 = .ok (.getfield 217, 3) := by decide +kernel
theorem eX6_shift_122 : decode mX6_shift.2.1 122 = .ok (.iload 4, 2) := by decide +kernel
theorem eX6_shift_124 : decode mX6_shift.2.1 124 = .ok (.iload 5, 2) := by decide +kernel
theorem eX6_shift_126 : decode mX6_shift.2.1 126 = .ok (.invokestatic 250, 3) := by decide +kernel
theorem eX6_shift_129 : decode mX6_shift.2.1 129 = .ok (.iload 5, 2) := by decide +kernel
theorem eX6_shift_131 : decode mX6_shift.2.1 131 = .ok (.ireturn, 1) := by decide +kernel
theorem c_X6_shift (hO : OA h 16 (.inr (6, afs bi se))) (hU : TpR h (U.1 15) (U.1 16) (U.2.2 17)) (hT : mT U) (tl x tk y n : Int32) (hd : 1 ≤ d) : Ct l G mX6_shift yX6_shift d 0 0 [.ref 16, .int tl, .int x, .int tk, .int y, .int n] h (fun r h' => r = some (.int (sShift U tl x tk y n).1) ∧ TpR h' (U.1 15) (U.1 16) (sShift U tl x tk y n).2 ∧ Same 65 12 h h') := by
  refine ct_of (lv := [some (.ref 16), some (.int tl), some (.int x), some (.int tk), some (.int y), some (.int n), none, none]) (by decide +kernel) rfl (fun z => by cases z) (fun _ => rfl) (fun _ => Nat.le_of_ble_eq_true rfl) ?_
  have hU0 := hU
  obtain ⟨fa, hTA, hTf, hTp⟩ := hU
  refine aw_iload_n (pc' := 1) eX6_shift_0 rfl rfl ?_
  refine aw_calls (pc' := 4) (nn := 1) (c_X6_isTape (d := d - 1) _ (by omega)) eX6_shift_1 rfl ⟨q694, q696, q55⟩ q695 ⟨by decide +kernel, by decide +kernel, by decide +kernel⟩ rfl ⟨by omega, by decide⟩ ⟨by omega, by omega⟩ rfl (Nat.le_of_ble_eq_true rfl) (fun v1 h2 hq3 => ?_)
  obtain ⟨rfl, rfl⟩ := hq3
  dsimp only [Option.toList, List.cons_append, List.nil_append]
  refine aw_if_eq (pc' := 7) (tgt := 14) eX6_shift_4 rfl (by decide) (fun c_4 => ?_) (fun c_4 => ?_)
  · refine aw_iconst (pc' := 15) (v := -1) eX6_shift_14 rfl (by decide) ?_
    refine aw_ret (v := some (.int _)) eX6_shift_15 ⟨rfl, rfl⟩ (by omega) (by omega) rfl ?_
    rw [sShift, if_neg (fun z => by rw [(zb_eq0.mp c_4)] at z; exact absurd z.1 (by decide))]
    exact ⟨rfl, hU0, Same.rf⟩
  · have hb9 := zb_ne0.mp c_4
    obtain ⟨b, hb, rfl⟩ := (bIn_lit (N := 5) (by omega)).mp hb9
    have clb : (nI b).toNatClampNeg = b := nI_clamp (by omega)
    obtain ⟨f, hX, hf⟩ := hTp b (by omega)
    obtain ⟨⟨nb, hnb, enb⟩, hsb⟩ := hT b (by omega)
    refine aw_iload_n (pc' := 8) eX6_shift_7 rfl rfl ?_
    refine aw_calls (pc' := 11) (nn := 1) (c_X6_isTape (d := d - 1) _ (by omega)) eX6_shift_8 rfl ⟨q694, q696, q55⟩ q695 ⟨by decide +kernel, by decide +kernel, by decide +kernel⟩ rfl ⟨by omega, by decide⟩ ⟨by omega, by omega⟩ rfl (Nat.le_of_ble_eq_true rfl) (fun v4 h5 hq6 => ?_)
    obtain ⟨rfl, rfl⟩ := hq6
    dsimp only [Option.toList, List.cons_append, List.nil_append]
    refine aw_if_ne (pc' := 14) (tgt := 16) eX6_shift_11 rfl (by decide) (fun c_11 => ?_) (fun c_11 => ?_)
    · have hc9 := zb_ne0.mp c_11
      obtain ⟨c, hc, rfl⟩ := (bIn_lit (N := 5) (by omega)).mp hc9
      have clc : (nI c).toNatClampNeg = c := nI_clamp (by omega)
      obtain ⟨f2, hY, hf2⟩ := hTp c (by omega)
      obtain ⟨⟨nc, hnc, enc⟩, hsc⟩ := hT c (by omega)
      refine aw_aload_n (pc' := 17) eX6_shift_16 rfl rfl trivial ?_
      refine aw_Oget (pc' := 20) (ci := 6) (kf := 12) (N := 14) (.ref 62) hO eX6_shift_17 rfl rfl rfl inX6 (by decide) q262 rfl ?_
      refine aw_iload_n (pc' := 21) eX6_shift_20 rfl rfl ?_
      refine aw_Aal (pc' := 22) b hTA eX6_shift_21 rfl (show vp_in _ 6 from vp_in_nI (by omega) (by omega)) (nI_clamp (by omega)) (hTf b (by omega)) ?_
      refine aw_astore (pc' := 24) eX6_shift_22 rfl (by decide) trivial ?_
      dsimp only [zst, zst2, zcut]
      refine aw_aload_n (pc' := 25) eX6_shift_24 rfl rfl trivial ?_
      refine aw_Oget (pc' := 28) (ci := 6) (kf := 12) (N := 14) (.ref 62) hO eX6_shift_25 rfl rfl rfl inX6 (by decide) q262 rfl ?_
      refine aw_iload_n (pc' := 29) eX6_shift_28 rfl rfl ?_
      refine aw_Aal (pc' := 30) c hTA eX6_shift_29 rfl (show vp_in _ 6 from vp_in_nI (by omega) (by omega)) (nI_clamp (by omega)) (hTf c (by omega)) ?_
      refine aw_astore (pc' := 32) eX6_shift_30 rfl (by decide) trivial ?_
      dsimp only [zst, zst2, zcut]
      refine aw_aload (pc' := 34) eX6_shift_32 rfl rfl trivial ?_
      refine aw_OgetN (pc' := 37) (ci := 3) (kf := 1) (N := 3) (.int (U.1 15 b)) (hX).1 eX6_shift_34 rfl rfl rfl inX3 (by decide) rfl (by decide) rfl ?_
      refine aw_iconst (pc' := 38) (v := -1) eX6_shift_37 rfl (by decide) ?_
      refine aw_icmp_eq (pc' := 41) (tgt := 50) eX6_shift_38 rfl (by decide) (fun c_38 => ?_) (fun c_38 => ?_)
      · refine aw_bipush (pc' := 52) (v := -11) eX6_shift_50 rfl (by decide) ?_
        refine aw_ret (v := some (.int _)) eX6_shift_52 ⟨rfl, rfl⟩ (by omega) (by omega) rfl ?_
        rw [sShift, if_pos ⟨hb9, hc9⟩, clb, clc, if_pos (Or.inl (by rw [c_38]; decide))]
        exact ⟨rfl, hU0, Same.rf⟩
      · refine aw_aload (pc' := 43) eX6_shift_41 rfl rfl trivial ?_
        refine aw_OgetN (pc' := 46) (ci := 3) (kf := 1) (N := 3) (.int (U.1 15 c)) (hY).1 eX6_shift_43 rfl rfl rfl inX3 (by decide) rfl (by decide) rfl ?_
        refine aw_iconst (pc' := 47) (v := -1) eX6_shift_46 rfl (by decide) ?_
        refine aw_icmp_ne (pc' := 50) (tgt := 53) eX6_shift_47 rfl (by decide) (fun c_47 => ?_) (fun c_47 => ?_)
        · have hng : ¬ (U.1 15 b < 0 ∨ U.1 15 c < 0) := by
            obtain ⟨k1, hk1, ek1⟩ := hsb.resolve_left c_38
            obtain ⟨k2, hk2, ek2⟩ := hsc.resolve_left c_47
            rw [ek1, ek2, Int32.lt_iff_toInt_lt, Int32.lt_iff_toInt_lt, nI_toInt (by omega), nI_toInt (by omega), show (0 : Int32).toInt = 0 from by decide]
            omega
          refine aw_aload (pc' := 55) eX6_shift_53 rfl rfl trivial ?_
          refine aw_OgetN (pc' := 58) (ci := 3) (kf := 1) (N := 3) (.int (U.1 15 b)) (hX).1 eX6_shift_55 rfl rfl rfl inX3 (by decide) rfl (by decide) rfl ?_
          refine aw_aload (pc' := 60) eX6_shift_58 rfl rfl trivial ?_
          refine aw_OgetN (pc' := 63) (ci := 3) (kf := 1) (N := 3) (.int (U.1 15 c)) (hY).1 eX6_shift_60 rfl rfl rfl inX3 (by decide) rfl (by decide) rfl ?_
          refine aw_icmp_eq (pc' := 66) (tgt := 69) eX6_shift_63 rfl (by decide) (fun c_63 => ?_) (fun c_63 => ?_)
          · refine aw_iload (pc' := 71) eX6_shift_69 rfl rfl ?_
            refine aw_if_lt (pc' := 74) (tgt := 108) eX6_shift_71 rfl (by decide) (fun c_71 => ?_) (fun c_71 => ?_)
            · refine aw_bipush (pc' := 110) (v := -13) eX6_shift_108 rfl (by decide) ?_
              refine aw_ret (v := some (.int _)) eX6_shift_110 ⟨rfl, rfl⟩ (by omega) (by omega) rfl ?_
              have hok : sShOk U (nI b) (nI c) x y n = false := by
                unfold sShOk
                rw [clb, clc, decide_eq_true c_71]
                simp
              rw [sShift, if_pos ⟨hb9, hc9⟩, clb, clc, if_neg hng, if_pos c_63, if_neg (by rw [(show sShOk U (nI b) (nI c) x y n = false from hok)]; decide)]
              exact ⟨rfl, hU0, Same.rf⟩
            · refine aw_iload_n (pc' := 75) eX6_shift_74 rfl rfl ?_
              refine aw_if_lt (pc' := 78) (tgt := 108) eX6_shift_75 rfl (by decide) (fun c_75 => ?_) (fun c_75 => ?_)
              · refine aw_bipush (pc' := 110) (v := -13) eX6_shift_108 rfl (by decide) ?_
                refine aw_ret (v := some (.int _)) eX6_shift_110 ⟨rfl, rfl⟩ (by omega) (by omega) rfl ?_
                have hok : sShOk U (nI b) (nI c) x y n = false := by
                  unfold sShOk
                  rw [clb, clc, decide_eq_true c_75]
                  simp
                rw [sShift, if_pos ⟨hb9, hc9⟩, clb, clc, if_neg hng, if_pos c_63, if_neg (by rw [(show sShOk U (nI b) (nI c) x y n = false from hok)]; decide)]
                exact ⟨rfl, hU0, Same.rf⟩
              · refine aw_iload (pc' := 80) eX6_shift_78 rfl rfl ?_
                refine aw_if_lt (pc' := 83) (tgt := 108) eX6_shift_80 rfl (by decide) (fun c_80 => ?_) (fun c_80 => ?_)
                · refine aw_bipush (pc' := 110) (v := -13) eX6_shift_108 rfl (by decide) ?_
                  refine aw_ret (v := some (.int _)) eX6_shift_110 ⟨rfl, rfl⟩ (by omega) (by omega) rfl ?_
                  have hok : sShOk U (nI b) (nI c) x y n = false := by
                    unfold sShOk
                    rw [clb, clc, decide_eq_true c_80]
                    simp
                  rw [sShift, if_pos ⟨hb9, hc9⟩, clb, clc, if_neg hng, if_pos c_63, if_neg (by rw [(show sShOk U (nI b) (nI c) x y n = false from hok)]; decide)]
                  exact ⟨rfl, hU0, Same.rf⟩
                · refine aw_iload_n (pc' := 84) eX6_shift_83 rfl rfl ?_
                  refine aw_aload (pc' := 86) eX6_shift_84 rfl rfl trivial ?_
                  refine aw_OgetN (pc' := 89) (ci := 3) (kf := 2) (N := 3) (.int (U.1 16 b)) (hX).1 eX6_shift_86 rfl rfl rfl inX3 (by decide) rfl (by decide) rfl ?_
                  refine aw_iload (pc' := 91) eX6_shift_89 rfl rfl ?_
                  refine aw_isub (pc' := 92) eX6_shift_91 rfl ?_
                  refine aw_icmp_gt (pc' := 95) (tgt := 108) eX6_shift_92 rfl (by decide) (fun c_92 => ?_) (fun c_92 => ?_)
                  · refine aw_bipush (pc' := 110) (v := -13) eX6_shift_108 rfl (by decide) ?_
                    refine aw_ret (v := some (.int _)) eX6_shift_110 ⟨rfl, rfl⟩ (by omega) (by omega) rfl ?_
                    rw [enb] at c_92
                    have hok : sShOk U (nI b) (nI c) x y n = false := by
                      unfold sShOk
                      rw [clb, clc, enb, decide_eq_true ((sh_gt hnb c_75 c_71).mp c_92)]
                      simp
                    rw [sShift, if_pos ⟨hb9, hc9⟩, clb, clc, if_neg hng, if_pos c_63, if_neg (by rw [(show sShOk U (nI b) (nI c) x y n = false from hok)]; decide)]
                    exact ⟨rfl, hU0, Same.rf⟩
                  · refine aw_iload (pc' := 97) eX6_shift_95 rfl rfl ?_
                    refine aw_aload (pc' := 99) eX6_shift_97 rfl rfl trivial ?_
                    refine aw_OgetN (pc' := 102) (ci := 3) (kf := 2) (N := 3) (.int (U.1 16 c)) (hY).1 eX6_shift_99 rfl rfl rfl inX3 (by decide) rfl (by decide) rfl ?_
                    refine aw_iload (pc' := 104) eX6_shift_102 rfl rfl ?_
                    refine aw_isub (pc' := 105) eX6_shift_104 rfl ?_
                    refine aw_icmp_le (pc' := 108) (tgt := 111) eX6_shift_105 rfl (by decide) (fun c_105 => ?_) (fun c_105 => ?_)
                    · rw [enb] at c_92
                      rw [enc] at c_105
                      have g1 : ¬ nI nb - x < n := fun z => c_92 ((sh_gt hnb c_75 c_71).mpr z)
                      have g2 : ¬ nI nc - y < n := fun z => absurd ((sh_gt hnc c_80 c_71).mpr z) (Int32.not_lt.mpr c_105)
                      have hok : sShOk U (nI b) (nI c) x y n = true := by
                        unfold sShOk
                        rw [clb, clc, enb, enc, decide_eq_false c_71, decide_eq_false c_75, decide_eq_false c_80, decide_eq_false g1, decide_eq_false g2]
                        rfl
                      obtain ⟨i9, n9, ei9, en9, h59⟩ := sh_lt (a := nI nb) rfl hnb c_75 c_71 g1
                      obtain ⟨j9, n8, ej9, en8, h58⟩ := sh_lt (a := nI nc) rfl hnc c_80 c_71 g2
                      obtain rfl : n9 = n8 := (nI_eq (by omega) (by omega)).mp (en9.symm.trans en8)
                      subst ei9 en9 ej9
                      refine aw_aload (pc' := 113) eX6_shift_111 rfl rfl trivial ?_
                      refine aw_OgetN (pc' := 116) (ci := 3) (kf := 0) (N := 3) (.ref (65 + 2 * b + 1)) (hX).1 eX6_shift_113 rfl rfl rfl inX3 (by decide) rfl (by decide) rfl ?_
                      refine aw_iload_n (pc' := 117) eX6_shift_116 rfl rfl ?_
                      refine aw_aload (pc' := 119) eX6_shift_117 rfl rfl trivial ?_
                      refine aw_OgetN (pc' := 122) (ci := 3) (kf := 0) (N := 3) (.ref (65 + 2 * c + 1)) (hY).1 eX6_shift_119 rfl rfl rfl inX3 (by decide) rfl (by decide) rfl ?_
                      refine aw_iload (pc' := 124) eX6_shift_122 rfl rfl ?_
                      refine aw_iload (pc' := 126) eX6_shift_124 rfl rfl ?_
                      refine aw_Acpj (pc' := 129) (s0 := i9) (s1 := j9) (c := n9) (hX).2 (hY).2 eX6_shift_126 rfl q779 q338 q337 q64 rfl rfl rfl ⟨by omega, by omega, by omega, by omega⟩ (by omega) (Nat.le_of_ble_eq_true rfl) (fun h10 hA8 hs9 => ?_)
                      have hX7 : TAt _ (65 + 2 * c) (U.1 15 c) (U.1 16 c) _ := ⟨(hY).1.fr hs9 (by omega), hA8⟩
                      have hs9w := hs9.w (w2 := 65 + 2 * c) (n2 := 2) (by omega) (by omega)
                      refine aw_iload (pc' := 131) eX6_shift_129 rfl rfl ?_
                      refine aw_ret (v := some (.int _)) eX6_shift_131 ⟨rfl, rfl⟩ (by omega) (by omega) rfl ?_
                      rw [sShift, if_pos ⟨hb9, hc9⟩, clb, clc, if_neg hng, if_pos c_63, if_pos hok, nI_clamp (n := i9) (by omega), nI_clamp (n := j9) (by omega), nI_clamp (n := n9) (by omega)]
                      have z := TpR.put (V' := sShV U b c i9 j9 n9) hU0 (by omega) hs9w hX7 (fun i hi => ?_) (fun u hu hne i hi => ?_)
                      · rw [upd_id, upd_id] at z
                        exact ⟨rfl, z, (hs9w).w (by omega) (by omega)⟩
                      · show (if j9 ≤ i ∧ i < j9 + n9 then f (i9 + (i - j9)) else f2 i) = if 60 * c + j9 ≤ 60 * c + i ∧ 60 * c + i < 60 * c + j9 + n9 then U.2.2 17 (60 * b + i9 + (60 * c + i - (60 * c + j9))) else U.2.2 17 (60 * c + i)
                        by_cases q : j9 ≤ i ∧ i < j9 + n9
                        · rw [if_pos q, if_pos (by omega), hf _ (by omega), show 60 * b + (i9 + (i - j9)) = 60 * b + i9 + (60 * c + i - (60 * c + j9)) by omega]
                        · rw [if_neg q, if_neg (by omega)]; exact hf2 i hi
                      · show (if 60 * c + j9 ≤ 60 * u + i ∧ 60 * u + i < 60 * c + j9 + n9 then _ else U.2.2 17 (60 * u + i)) = _
                        rw [if_neg (by omega)]
                    · refine aw_bipush (pc' := 110) (v := -13) eX6_shift_108 rfl (by decide) ?_
                      refine aw_ret (v := some (.int _)) eX6_shift_110 ⟨rfl, rfl⟩ (by omega) (by omega) rfl ?_
                      rw [enc] at c_105
                      have hok : sShOk U (nI b) (nI c) x y n = false := by
                        unfold sShOk
                        rw [clb, clc, enc, decide_eq_true ((sh_gt hnc c_80 c_71).mp (Int32.not_le.mp c_105))]
                        simp
                      rw [sShift, if_pos ⟨hb9, hc9⟩, clb, clc, if_neg hng, if_pos c_63, if_neg (by rw [(show sShOk U (nI b) (nI c) x y n = false from hok)]; decide)]
                      exact ⟨rfl, hU0, Same.rf⟩
          · refine aw_bipush (pc' := 68) (v := -12) eX6_shift_66 rfl (by decide) ?_
            refine aw_ret (v := some (.int _)) eX6_shift_68 ⟨rfl, rfl⟩ (by omega) (by omega) rfl ?_
            rw [sShift, if_pos ⟨hb9, hc9⟩, clb, clc, if_neg hng, if_neg c_63]
            exact ⟨rfl, hU0, Same.rf⟩
        · refine aw_bipush (pc' := 52) (v := -11) eX6_shift_50 rfl (by decide) ?_
          refine aw_ret (v := some (.int _)) eX6_shift_52 ⟨rfl, rfl⟩ (by omega) (by omega) rfl ?_
          rw [sShift, if_pos ⟨hb9, hc9⟩, clb, clc, if_pos (Or.inr (by rw [c_47]; decide))]
          exact ⟨rfl, hU0, Same.rf⟩
    · refine aw_iconst (pc' := 15) (v := -1) eX6_shift_14 rfl (by decide) ?_
      refine aw_ret (v := some (.int _)) eX6_shift_15 ⟨rfl, rfl⟩ (by omega) (by omega) rfl ?_
      rw [sShift, if_neg (fun z => by rw [(zb_eq0.mp c_11)] at z; exact absurd z.2 (by decide))]
      exact ⟨rfl, hU0, Same.rf⟩
abbrev mX6_judge : MT := (RX6, cX6_judge, 5, (some .int), false)
theorem eX6_judge_0 : decode mX6_judge.2.1 0 = .ok (.iload_n 1, 1) := by decide +kernel
theorem eX6_judge_1 : decode mX6_judge.2.1 1 = .ok (.invokestatic 210, 3) := by decide +kernel
theorem eX6_judge_4 : decode mX6_judge.2.1 4 = .ok (.ifCond .ne 5, 3) := by decide +kernel
theorem eX6_judge_7 : decode mX6_judge.2.1 7 = .ok (.iconst (-1), 1) := by decide +kernel
theorem eX6_judge_8 : decode mX6_judge.2.1 8 = .ok (.ireturn, 1) := by decide +kernel
theorem eX6_judge_9 : decode mX6_judge.2.1 9 = .ok (.aload_n 0, 1) := by decide +kernel
theorem eX6_judge_10 : decode mX6_judge.2.1 10 = .ok (.getfield 66, 3) := by decide +kernel
theorem eX6_judge_13 : decode mX6_judge.2.1 13 = .ok (.iload_n 1, 1) := by decide +kernel
theorem eX6_judge_14 : decode mX6_judge.2.1 14 = .ok (.aaload, 1) := by decide +kernel
theorem eX6_judge_15 : decode mX6_judge.2.1 15 = .ok (.astore_n 3, 1) := by decide +kernel
theorem eX6_judge_16 : decode mX6_judge.2.1 16 = .ok (.aload_n 3, 1) := by decide +kernel
theorem eX6_judge_17 : decode mX6_judge.2.1 17 = .ok (.getfield 213, 3) := by decide +kernel
theorem eX6_judge_20 : decode mX6_judge.2.1 20 = .ok (.iconst (-1), 1) := by decide +kernel
theorem eX6_judge_21 : decode mX6_judge.2.1 21 = .ok (.if_icmp .eq 14, 3) := by decide +kernel
theorem eX6_judge_24 : decode mX6_judge.2.1 24 = .ok (.aload_n 3, 1) := by decide +kernel
theorem eX6_judge_25 : decode mX6_judge.2.1 25 = .ok (.getfield 213, 3) := by decide +kernel
theorem eX6_judge_28 : decode mX6_judge.2.1 28 = .ok (.iconst 2, 1) := by decide +kernel
theorem eX6_judge_29 : decode mX6_judge.2.1 29 = .ok (.if_icmp .eq 6, 3) := by decide +kernel
theorem eX6_judge_32 : decode mX6_judge.2.1 32 = .ok (.bipush (-12), 2) := by decide +kernel
theorem eX6_judge_34 : decode mX6_judge.2.1 34 = .ok (.ireturn, 1) := by decide +kernel
theorem eX6_judge_35 : decode mX6_judge.2.1 35 = .ok (.iconst 0, 1) := by decide +kernel
theorem eX6_judge_36 : decode mX6_judge.2.1 36 = .ok (.istore 4, 2) := by decide +kernel
theorem eX6_judge_38 : decode mX6_judge.2.1 38 = .ok (.iload 4, 2) := by decide +kernel
theorem eX6_judge_40 : decode mX6_judge.2.1 40 = .ok (.aload_n 0, 1) := by decide +kernel
theorem eX6_judge_41 : decode mX6_judge.2.1 41 = .ok (.getfield 16, 3) := by decide +kernel
theorem eX6_judge_44 : decode mX6_judge.2.1 44 = .ok (.getfield 78, 3) := by decide +kernel
theorem eX6_judge_47 : decode mX6_judge.2.1 47 = .ok (.if_icmp .ge 57, 3) := by decide +kernel
theorem eX6_judge_50 : decode mX6_judge.2.1 50 = .ok (.iload_n 2, 1) := by decide +kernel
theorem eX6_judge_51 : decode mX6_judge.2.1 51 = .ok (.ifCond .lt 14, 3) := by decide +kernel
theorem eX6_judge_54 : decode mX6_judge.2.1 54 = .ok (.iload_n 2, 1) := by decide +kernel
theorem eX6_judge_55 : decode mX6_judge.2.1 55 = .ok (.aload_n 3, 1) := by decide +kernel
theorem eX6_judge_56 : decode mX6_judge.2.1 56 = .ok (.getfield 216, 3) := by decide +kernel
theorem eX6_judge_59 : decode mX6_judge.2.1 59 = .ok (.iload 4, 2) := by decide +kernel
theorem eX6_judge_61 : decode mX6_judge.2.1 61 = .ok (.isub, 1) := by decide +kernel
theorem eX6_judge_62 : decode mX6_judge.2.1 62 = .ok (.if_icmp .lt 9, 3) := by decide +kernel
theorem eX6_judge_65 : decode mX6_judge.2.1 65 = .ok (.bipush 100, 2) := by decide +kernel
theorem eX6_judge_67 : decode mX6_judge.2.1 67 = .ok (.iload 4, 2) := by decide +kernel
theorem eX6_judge_69 : decode mX6_judge.2.1 69 = .ok (.iadd, 1) := by decide +kernel
theorem eX6_judge_70 : decode mX6_judge.2.1 70 = .ok (.ireturn, 1) := by decide +kernel
theorem eX6_judge_71 : decode mX6_judge.2.1 71 = .ok (.aload_n 3, 1) := by decide +kernel
theorem eX6_judge_72 : decode mX6_judge.2.1 72 = .ok (.getfield 217, 3) := by decide +kernel
theorem eX6_judge_75 : decode mX6_judge.2.1 75 = .ok (.iload_n 2, 1) := by decide +kernel
theorem eX6_judge_76 : decode mX6_judge.2.1 76 = .ok (.iload 4, 2) := by decide +kernel
theorem eX6_judge_78 : decode mX6_judge.2.1 78 = .ok (.iadd, 1) := by decide +kernel
theorem eX6_judge_79 : decode mX6_judge.2.1 79 = .ok (.laload, 1) := by decide +kernel
theorem eX6_judge_80 : decode mX6_judge.2.1 80 = .ok (.aload_n 0, 1) := by decide +kernel
theorem eX6_judge_81 : decode mX6_judge.2.1 81 = .ok (.getfield 16, 3) := by decide +kernel
theorem eX6_judge_84 : decode mX6_judge.2.1 84 = .ok (.getfield 102, 3) := by decide +kernel
theorem eX6_judge_87 : decode mX6_judge.2.1 87 = .ok (.iload 4, 2) := by decide +kernel
theorem eX6_judge_89 : decode mX6_judge.2.1 89 = .ok (.iaload, 1) := by decide +kernel
theorem eX6_judge_90 : decode mX6_judge.2.1 90 = .ok (.i2l, 1) := by decide +kernel
theorem eX6_judge_91 : decode mX6_judge.2.1 91 = .ok (.lcmp, 1) := by decide +kernel
theorem eX6_judge_92 : decode mX6_judge.2.1 92 = .ok (.ifCond .eq 6, 3) := by decide +kernel
theorem eX6_judge_95 : decode mX6_judge.2.1 95 = .ok (.iload 4, 2) := by decide +kernel
theorem eX6_judge_97 : decode mX6_judge.2.1 97 = .ok (.ireturn, 1) := by decide +kernel
theorem eX6_judge_98 : decode mX6_judge.2.1 98 = .ok (.iinc 4 1, 3) := by decide +kernel
theorem eX6_judge_101 : decode mX6_judge.2.1 101 = .ok (.goto (-63), 3) := by decide +kernel
theorem eX6_judge_104 : decode mX6_judge.2.1 104 = .ok (.bipush (-5), 2) := by decide +kernel
theorem eX6_judge_106 : decode mX6_judge.2.1 106 = .ok (.ireturn, 1) := by decide +kernel
theorem lp_X6_judge (hO : OA h 16 (.inr (6, afs bi se))) (hN : WF F h 17 g (nI 9999)) (hm : g 60 = nI m) (hm6 : m ≤ 6) (eg : g = U.1 1) {b nb : Nat} {f : Nat → Int64} (hX : TAt h (65 + 2 * b) (U.1 15 b) (U.1 16 b) f) (hf : ∀ i, i < 60 → f i = U.2.2 17 (60 * b + i)) (hnb : nb ≤ 60) (enb : U.1 16 b = nI nb) (hd : 1 ≤ d) (i : Int32) : ∀ (j p : Nat) (y : Int32), j = m - p → p ≤ m → y = nI p → Q (some (.int (sJud U b i (m - p) p))) h → AW l G mX6_judge d 0 0 Q 0 0 h [some (.ref 16), some (.int (nI b)), some (.int i), some (.ref (65 + 2 * b)), some (.int y)] [] 38 := by
  intro j
  induction j using Nat.strongRecOn with
  | _ j ih =>
    intro p y hj hp hy hQ
    subst hy
    refine aw_iload (pc' := 40) eX6_judge_38 rfl rfl ?_
    refine aw_aload_n (pc' := 41) eX6_judge_40 rfl rfl trivial ?_
    refine aw_Oget (pc' := 44) (ci := 6) (kf := 0) (N := 14) (.ref 17) hO eX6_judge_41 rfl rfl rfl inX6 (by decide) q250 rfl ?_
    refine aw_Fint (pc' := 47) (kf := 10) hN eX6_judge_44 rfl (by decide) q116 ?_
    rw [gsc10, hm]
    refine aw_icmp_ge (pc' := 50) (tgt := 104) eX6_judge_47 rfl (by decide) (fun c_47 => ?_) (fun c_47 => ?_)
    · refine aw_bipush (pc' := 106) (v := -5) eX6_judge_104 rfl (by decide) ?_
      refine aw_ret (v := some (.int _)) eX6_judge_106 ⟨rfl, rfl⟩ (by omega) (by omega) rfl ?_
      obtain rfl : p = m := by have := ge_nI (by omega) (by omega) c_47; omega
      rw [Nat.sub_self] at hQ
      exact hQ
    · have hpm : p < m := nge_nI (by omega) (by omega) c_47
      refine aw_iload_n (pc' := 51) eX6_judge_50 rfl rfl ?_
      refine aw_if_lt (pc' := 54) (tgt := 65) eX6_judge_51 rfl (by decide) (fun c_51 => ?_) (fun c_51 => ?_)
      · refine aw_bipush (pc' := 67) (v := 100) eX6_judge_65 rfl (by decide) ?_
        refine aw_iload (pc' := 69) eX6_judge_67 rfl rfl ?_
        refine aw_iadd (pc' := 70) eX6_judge_69 rfl ?_
        refine aw_ret (v := some (.int _)) eX6_judge_70 ⟨rfl, rfl⟩ (by omega) (by omega) rfl ?_
        rw [show m - p = m - (p + 1) + 1 by omega, sJud, if_pos (Or.inl c_51)] at hQ
        rw [show (100 : Int32) + nI p = nI (100 + p) from nI_add 100 p]
        exact hQ
      · refine aw_iload_n (pc' := 55) eX6_judge_54 rfl rfl ?_
        refine aw_aload_n (pc' := 56) eX6_judge_55 rfl rfl trivial ?_
        refine aw_OgetN (pc' := 59) (ci := 3) (kf := 2) (N := 3) (.int (U.1 16 b)) (hX).1 eX6_judge_56 rfl rfl rfl inX3 (by decide) rfl (by decide) rfl ?_
        refine aw_iload (pc' := 61) eX6_judge_59 rfl rfl ?_
        refine aw_isub (pc' := 62) eX6_judge_61 rfl ?_
        refine aw_icmp_lt (pc' := 65) (tgt := 71) eX6_judge_62 rfl (by decide) (fun c_62 => ?_) (fun c_62 => ?_)
        · rw [enb] at c_62
          have hj9 : ¬ (i < 0 ∨ (U.1 16 b).toNatClampNeg ≤ i.toNatClampNeg + p) := by
            rw [enb]
            exact fun z => z.elim c_51 ((jd_lt hnb (by omega) c_51).mp c_62)
          obtain ⟨q, hq, ei⟩ := i_lt (i := i) (k := nb) (by omega) c_51 (by
            have z := (jd_lt hnb (by omega) c_51).mp c_62
            rw [nI_clamp (by omega)] at z
            have hi2 := Int32.le_iff_toInt_le.mp (Int32.not_lt.mp c_51)
            rw [show (0 : Int32).toInt = 0 from by decide] at hi2
            have e9 : i.toNatClampNeg = i.toInt.toNat := rfl
            rw [Int32.lt_iff_toInt_lt, nI_toInt (by omega)]
            omega)
          have clE9 : i.toNatClampNeg = q := by rw [ei]; exact nI_clamp (by omega)
          have hqp : q + p < nb := by
            have z := (jd_lt hnb (by omega) c_51).mp c_62
            rw [nI_clamp (by omega), clE9] at z
            omega
          refine aw_aload_n (pc' := 72) eX6_judge_71 rfl rfl trivial ?_
          refine aw_OgetN (pc' := 75) (ci := 3) (kf := 0) (N := 3) (.ref (65 + 2 * b + 1)) (hX).1 eX6_judge_72 rfl rfl rfl inX3 (by decide) rfl (by decide) rfl ?_
          refine aw_iload_n (pc' := 76) eX6_judge_75 rfl rfl ?_
          refine aw_iload (pc' := 78) eX6_judge_76 rfl rfl ?_
          refine aw_iadd (pc' := 79) eX6_judge_78 rfl ?_
          rw [show i + nI p = nI (q + p) from by rw [ei]; exact nI_add q p]
          refine aw_Ajl (pc' := 80) (q + p) (hX).2 eX6_judge_79 rfl (show vp_in _ 60 from vp_in_nI (by omega) (by omega)) (nI_clamp (by omega)) ?_
          refine aw_aload_n (pc' := 81) eX6_judge_80 rfl rfl trivial ?_
          refine aw_Oget (pc' := 84) (ci := 6) (kf := 0) (N := 14) (.ref 17) hO eX6_judge_81 rfl rfl rfl inX6 (by decide) q250 rfl ?_
          refine aw_Fref (pc' := 87) (kf := 5) hN eX6_judge_84 rfl (by decide) q107 ?_
          refine aw_iload (pc' := 89) eX6_judge_87 rfl rfl ?_
          refine aw_Fld (pc' := 90) 5 4 p hN eX6_judge_89 rfl (by decide) rfl (show vp_in _ 6 from vp_in_nI (by omega) (by omega)) (nI_clamp (by omega)) ?_
          refine aw_i2l (pc' := 91) eX6_judge_90 rfl ?_
          refine aw_lcmp (pc' := 92) eX6_judge_91 rfl ?_
          refine aw_if_eq (pc' := 95) (tgt := 98) eX6_judge_92 rfl (by decide) (fun c_92 => ?_) (fun c_92 => ?_)
          · refine aw_iinc (pc' := 101) eX6_judge_98 rfl rfl rfl (by decide) ?_
            dsimp only [zst, zst2, zcut]
            refine aw_goto eX6_judge_101 (by decide) (tgt := 38) ?_
            rw [show m - p = m - (p + 1) + 1 by omega, sJud, if_neg hj9, clE9, if_pos (by rw [← hf _ (by omega), ← eg]; exact (lg_cmp_eq _ _).mp c_92)] at hQ
            exact ih (m - (p + 1)) (by omega) (p + 1) _ rfl (by omega) (nI_inc p) hQ
          · refine aw_iload (pc' := 97) eX6_judge_95 rfl rfl ?_
            refine aw_ret (v := some (.int _)) eX6_judge_97 ⟨rfl, rfl⟩ (by omega) (by omega) rfl ?_
            rw [show m - p = m - (p + 1) + 1 by omega, sJud, if_neg hj9, clE9, if_neg (by rw [← hf _ (by omega), ← eg]; exact fun z => c_92 ((lg_cmp_eq _ _).mpr z))] at hQ
            exact hQ
        · refine aw_bipush (pc' := 67) (v := 100) eX6_judge_65 rfl (by decide) ?_
          refine aw_iload (pc' := 69) eX6_judge_67 rfl rfl ?_
          refine aw_iadd (pc' := 70) eX6_judge_69 rfl ?_
          refine aw_ret (v := some (.int _)) eX6_judge_70 ⟨rfl, rfl⟩ (by omega) (by omega) rfl ?_
          rw [enb] at c_62
          rw [show m - p = m - (p + 1) + 1 by omega, sJud, if_pos (Or.inr (by rw [enb]; exact Decidable.not_not.mp (fun z => c_62 ((jd_lt hnb (by omega) c_51).mpr z))))] at hQ
          rw [show (100 : Int32) + nI p = nI (100 + p) from nI_add 100 p]
          exact hQ
theorem c_X6_judge (hO : OA h 16 (.inr (6, afs bi se))) (hN : WF F h 17 g (nI 9999)) (hm : g 60 = nI m) (hm6 : m ≤ 6) (eg : g = U.1 1) (hU : TpR h (U.1 15) (U.1 16) (U.2.2 17)) (hT : mT U) (tl i : Int32) (hd : 1 ≤ d) : Ct l G mX6_judge yX6_judge d 0 0 [.ref 16, .int tl, .int i] h (fun r h' => r = some (.int (sJudge U m tl i)) ∧ h' = h) := by
  refine ct_of (lv := [some (.ref 16), some (.int tl), some (.int i), none, none]) (by decide +kernel) rfl (fun z => by cases z) (fun _ => rfl) (fun _ => Nat.le_of_ble_eq_true rfl) ?_
  have hU0 := hU
  obtain ⟨fa, hTA, hTf, hTp⟩ := hU
  refine aw_iload_n (pc' := 1) eX6_judge_0 rfl rfl ?_
  refine aw_calls (pc' := 4) (nn := 1) (c_X6_isTape (d := d - 1) _ (by omega)) eX6_judge_1 rfl ⟨q694, q696, q55⟩ q695 ⟨by decide +kernel, by decide +kernel, by decide +kernel⟩ rfl ⟨by omega, by decide⟩ ⟨by omega, by omega⟩ rfl (Nat.le_of_ble_eq_true rfl) (fun v1 h2 hq3 => ?_)
  obtain ⟨rfl, rfl⟩ := hq3
  dsimp only [Option.toList, List.cons_append, List.nil_append]
  refine aw_if_ne (pc' := 7) (tgt := 9) eX6_judge_4 rfl (by decide) (fun c_4 => ?_) (fun c_4 => ?_)
  · have hb9 := zb_ne0.mp c_4
    obtain ⟨b, hb, rfl⟩ := (bIn_lit (N := 5) (by omega)).mp hb9
    have clb : (nI b).toNatClampNeg = b := nI_clamp (by omega)
    obtain ⟨f, hX, hf⟩ := hTp b (by omega)
    obtain ⟨⟨nb, hnb, enb⟩, hsb⟩ := hT b (by omega)
    refine aw_aload_n (pc' := 10) eX6_judge_9 rfl rfl trivial ?_
    refine aw_Oget (pc' := 13) (ci := 6) (kf := 12) (N := 14) (.ref 62) hO eX6_judge_10 rfl rfl rfl inX6 (by decide) q262 rfl ?_
    refine aw_iload_n (pc' := 14) eX6_judge_13 rfl rfl ?_
    refine aw_Aal (pc' := 15) b hTA eX6_judge_14 rfl (show vp_in _ 6 from vp_in_nI (by omega) (by omega)) (nI_clamp (by omega)) (hTf b (by omega)) ?_
    refine aw_astore_n (pc' := 16) eX6_judge_15 rfl (by decide) trivial ?_
    dsimp only [zst, zst2, zcut]
    refine aw_aload_n (pc' := 17) eX6_judge_16 rfl rfl trivial ?_
    refine aw_OgetN (pc' := 20) (ci := 3) (kf := 1) (N := 3) (.int (U.1 15 b)) (hX).1 eX6_judge_17 rfl rfl rfl inX3 (by decide) rfl (by decide) rfl ?_
    refine aw_iconst (pc' := 21) (v := -1) eX6_judge_20 rfl (by decide) ?_
    refine aw_icmp_eq (pc' := 24) (tgt := 35) eX6_judge_21 rfl (by decide) (fun c_21 => ?_) (fun c_21 => ?_)
    · refine aw_iconst (pc' := 36) (v := 0) eX6_judge_35 rfl (by decide) ?_
      refine aw_istore (pc' := 38) eX6_judge_36 rfl (by decide) ?_
      dsimp only [zst, zst2, zcut]
      refine lp_X6_judge hO hN hm hm6 eg hX hf hnb enb (by omega) i m 0 _ (by omega) (by omega) rfl ?_
      rw [sJudge, if_pos hb9, clb, if_pos (Or.inl c_21)]
      exact ⟨rfl, rfl⟩
    · refine aw_aload_n (pc' := 25) eX6_judge_24 rfl rfl trivial ?_
      refine aw_OgetN (pc' := 28) (ci := 3) (kf := 1) (N := 3) (.int (U.1 15 b)) (hX).1 eX6_judge_25 rfl rfl rfl inX3 (by decide) rfl (by decide) rfl ?_
      refine aw_iconst (pc' := 29) (v := 2) eX6_judge_28 rfl (by decide) ?_
      refine aw_icmp_eq (pc' := 32) (tgt := 35) eX6_judge_29 rfl (by decide) (fun c_29 => ?_) (fun c_29 => ?_)
      · refine aw_iconst (pc' := 36) (v := 0) eX6_judge_35 rfl (by decide) ?_
        refine aw_istore (pc' := 38) eX6_judge_36 rfl (by decide) ?_
        dsimp only [zst, zst2, zcut]
        refine lp_X6_judge hO hN hm hm6 eg hX hf hnb enb (by omega) i m 0 _ (by omega) (by omega) rfl ?_
        rw [sJudge, if_pos hb9, clb, if_pos (Or.inr c_29)]
        exact ⟨rfl, rfl⟩
      · refine aw_bipush (pc' := 34) (v := -12) eX6_judge_32 rfl (by decide) ?_
        refine aw_ret (v := some (.int _)) eX6_judge_34 ⟨rfl, rfl⟩ (by omega) (by omega) rfl ?_
        rw [sJudge, if_pos hb9, clb, if_neg (fun z => z.elim c_21 c_29)]
        exact ⟨rfl, rfl⟩
  · refine aw_iconst (pc' := 8) (v := -1) eX6_judge_7 rfl (by decide) ?_
    refine aw_ret (v := some (.int _)) eX6_judge_8 ⟨rfl, rfl⟩ (by omega) (by omega) rfl ?_
    rw [sJudge, if_neg (by rw [(zb_eq0.mp c_4)]; decide)]
    exact ⟨rfl, rfl⟩
end C21
