/-! the class AmberGrains: acts, traces, counts, the image -/
section C20
variable {F : FT} {l : Launch} {G : GT} {d m t a : Nat} {g : Nat → Int32} {f : Nat → Int32} {h : Hp} {Q : Option Value → Hp → Prop} {bi se : Int32}
def gK (g : Nat → Int32) (m : Nat) : Prop := ∀ q, q < m → ∃ K, K < 7 ∧ g (10 * q) = nI K
theorem tr_e {r : Nat} (hr : r < 2 ^ 31) : ∃ k, k ≤ 20 ∧ k ≤ r ∧ (k = 20 ∨ k = r) ∧ (if nI r < 20 then nI r else (20 : Int32)) = nI k := by
  by_cases c : nI r < 20
  · have c2 := (nI_ltI (b := 20) hr (by omega)).mp c
    exact ⟨r, by omega, by omega, Or.inr rfl, if_pos c⟩
  · have c2 : ¬ r < 20 := fun z => c ((nI_ltI (b := 20) hr (by omega)).mpr z)
    exact ⟨20, by omega, by omega, Or.inl rfl, if_neg c⟩
theorem tr_in {i : Int32} {k : Nat} (hk : k ≤ 20) : bIn i 0 (nI k - 1) = true ↔ ∃ q, q < k ∧ i = nI q := by
  cases k with
  | zero =>
    rw [bIn_toInt, show (nI 0 - 1).toInt = -1 from by decide, show (0 : Int32).toInt = 0 from by decide]
    constructor
    · intro z; omega
    · rintro ⟨q, hq, _⟩; omega
  | succ k =>
    rw [show nI (k + 1) - 1 = nI k from nI_subn (a := k) (b := 1), bIn_lit (by omega)]
    constructor
    · rintro ⟨q, hq, e⟩; exact ⟨q, by omega, e⟩
    · rintro ⟨q, hq, e⟩; exact ⟨q, by omega, e⟩
theorem tr_t {i : Int32} {r : Nat} (hr : r < 2 ^ 31) (c1 : ¬ i < 0) (c2 : ¬ i ≥ nI r) (c3 : i < nI 20) : bIn i 0 ((if nI r < 20 then nI r else 20) - 1) = true ∧ ∃ q, q < 20 ∧ i = nI q := by
  obtain ⟨k, h1, h2, h3, e⟩ := tr_e hr
  have a1 : 0 ≤ i.toInt := by
    have := Int32.le_iff_toInt_le.mp (Int32.not_lt.mp c1)
    rwa [show (0 : Int32).toInt = 0 from by decide] at this
  have a2 : i.toInt < r := by
    have := Int32.lt_iff_toInt_lt.mp (Int32.not_le.mp c2)
    rwa [nI_toInt hr] at this
  have a3 : i.toInt < 20 := by
    have := Int32.lt_iff_toInt_lt.mp c3
    rwa [nI_toInt (by omega)] at this
  have e2 : i = nI i.toInt.toNat := Int32.toInt_inj.mp (by rw [nI_toInt (by omega)]; omega)
  rw [e]
  exact ⟨(tr_in h1).mpr ⟨i.toInt.toNat, by omega, e2⟩, i.toInt.toNat, by omega, e2⟩
theorem tr_f {i : Int32} {r : Nat} (hr : r < 2 ^ 31) (c : i ≥ nI r ∨ ¬ i < nI 20) : bIn i 0 ((if nI r < 20 then nI r else 20) - 1) = false := by
  obtain ⟨k, h1, h2, h3, e⟩ := tr_e hr
  rw [e, Bool.eq_false_iff]
  intro z
  obtain ⟨q, hq, rfl⟩ := (tr_in h1).mp z
  rcases c with c | c
  · have := (nI_leI hr (by omega)).mp c; omega
  · exact c ((nI_ltI (by omega) (by omega)).mpr (by omega))
theorem tk_eq {K : Nat} (hK : K < 7) (k : Int32) : sTk (nI K) k = (decide (k = 0) || decide (k = nI K) || decide (k = tabA K)) := by
  have B : ∀ K, K < 7 → (decide (nI K = 4) = decide (K = 4)) ∧ (decide (nI K = 5) = decide (K = 5)) ∧ (decide (nI K = 6) = decide (K = 6)) := by decide
  obtain ⟨b1, b2, b3⟩ := B K hK
  unfold sTk
  rw [b1, b2, b3]
  rcases (by omega : K = 0 ∨ K = 1 ∨ K = 2 ∨ K = 3 ∨ K = 4 ∨ K = 5 ∨ K = 6) with rfl | rfl | rfl | rfl | rfl | rfl | rfl
  · simp [tabA]; exact fun z => Or.inl z
  · simp [tabA]; exact fun z => Or.inl z
  · simp [tabA]; exact fun z => Or.inl z
  · simp [tabA]; exact fun z => Or.inl z
  · simp [tabA]
  · simp [tabA]
  · simp [tabA]
def cCnt (a b c d e f s w : Int32) : Int32 := if w = 0 then a else if w = 1 then b else if w = 2 then c else if w = 3 then d else if w = 4 then e else if w = 5 then f else if w = 6 then s else -2
def cFeed (a : Nat) (R : Nat → Int32) (c : Int32) : RWT := if bIn c 0 127 = true then if a = 100 then (-4, a, R) else (nI (a + 1), a + 1, upd R a c) else (-2, a, R)

abbrev mX6_act : MT := (RX6, cX6_act, 4, (some .int), false)
theorem eX6_act_0 : decode mX6_act.2.1 0 = .ok (.aload_n 0, 1) := by decide +kernel
theorem eX6_act_1 : decode mX6_act.2.1 1 = .ok (.getfield 16, 3) := by decide +kernel
theorem eX6_act_4 : decode mX6_act.2.1 4 = .ok (.iload_n 1, 1) := by decide +kernel
theorem eX6_act_5 : decode mX6_act.2.1 5 = .ok (.invokevirtual 85, 3) := by decide +kernel
theorem eX6_act_8 : decode mX6_act.2.1 8 = .ok (.ifCond .eq 12, 3) := by decide +kernel
theorem eX6_act_11 : decode mX6_act.2.1 11 = .ok (.iload_n 2, 1) := by decide +kernel
theorem eX6_act_12 : decode mX6_act.2.1 12 = .ok (.ifCond .lt 8, 3) := by decide +kernel
theorem eX6_act_15 : decode mX6_act.2.1 15 = .ok (.iload_n 2, 1) := by decide +kernel
theorem eX6_act_16 : decode mX6_act.2.1 16 = .ok (.iconst 2, 1) := by decide +kernel
theorem eX6_act_17 : decode mX6_act.2.1 17 = .ok (.if_icmp .le 13, 3) := by decide +kernel
theorem eX6_act_20 : decode mX6_act.2.1 20 = .ok (.aload_n 0, 1) := by decide +kernel
theorem eX6_act_21 : decode mX6_act.2.1 21 = .ok (.getfield 73, 3) := by decide +kernel
theorem eX6_act_24 : decode mX6_act.2.1 24 = .ok (.iconst 0, 1) := by decide +kernel
theorem eX6_act_25 : decode mX6_act.2.1 25 = .ok (.putfield 224, 3) := by decide +kernel
theorem eX6_act_28 : decode mX6_act.2.1 28 = .ok (.iconst 0, 1) := by decide +kernel
theorem eX6_act_29 : decode mX6_act.2.1 29 = .ok (.ireturn, 1) := by decide +kernel
theorem eX6_act_30 : decode mX6_act.2.1 30 = .ok (.aload_n 0, 1) := by decide +kernel
theorem eX6_act_31 : decode mX6_act.2.1 31 = .ok (.getfield 73, 3) := by decide +kernel
theorem eX6_act_34 : decode mX6_act.2.1 34 = .ok (.iload_n 1, 1) := by decide +kernel
theorem eX6_act_35 : decode mX6_act.2.1 35 = .ok (.aload_n 0, 1) := by decide +kernel
theorem eX6_act_36 : decode mX6_act.2.1 36 = .ok (.getfield 16, 3) := by decide +kernel
theorem eX6_act_39 : decode mX6_act.2.1 39 = .ok (.getfield 89, 3) := by decide +kernel
theorem eX6_act_42 : decode mX6_act.2.1 42 = .ok (.iload_n 1, 1) := by decide +kernel
theorem eX6_act_43 : decode mX6_act.2.1 43 = .ok (.iaload, 1) := by decide +kernel
theorem eX6_act_44 : decode mX6_act.2.1 44 = .ok (.aload_n 0, 1) := by decide +kernel
theorem eX6_act_45 : decode mX6_act.2.1 45 = .ok (.getfield 16, 3) := by decide +kernel
theorem eX6_act_48 : decode mX6_act.2.1 48 = .ok (.getfield 93, 3) := by decide +kernel
theorem eX6_act_51 : decode mX6_act.2.1 51 = .ok (.iload_n 1, 1) := by decide +kernel
theorem eX6_act_52 : decode mX6_act.2.1 52 = .ok (.iaload, 1) := by decide +kernel
theorem eX6_act_53 : decode mX6_act.2.1 53 = .ok (.invokevirtual 227, 3) := by decide +kernel
theorem eX6_act_56 : decode mX6_act.2.1 56 = .ok (.aload_n 0, 1) := by decide +kernel
theorem eX6_act_57 : decode mX6_act.2.1 57 = .ok (.getfield 73, 3) := by decide +kernel
theorem eX6_act_60 : decode mX6_act.2.1 60 = .ok (.iload_n 2, 1) := by decide +kernel
theorem eX6_act_61 : decode mX6_act.2.1 61 = .ok (.iload_n 3, 1) := by decide +kernel
theorem eX6_act_62 : decode mX6_act.2.1 62 = .ok (.invokevirtual 231, 3) := by decide +kernel
theorem eX6_act_65 : decode mX6_act.2.1 65 = .ok (.ireturn, 1) := by decide +kernel
theorem c_X6_act (hO : OA h 16 (.inr (6, afs bi se))) (hN : WF F h 17 g (nI 9999)) (hm : g 60 = nI m) (hm6 : m ≤ 6) {i K v : Int32} {s : TS} (hV : VAt h 63 i K v s) (hK : gK g m) (tl y x : Int32) (hd : 46 ≤ d) : Ct l G mX6_act yX6_act d 0 0 [.ref 16, .int tl, .int y, .int x] h (fun r h' => r = some (.int (sAct g m tl y x s.1).1) ∧ (∃ i' K' v', VAt h' 63 i' K' v' (sAct g m tl y x s.1).2) ∧ Same 63 2 h h') := by
  refine ct_of (lv := [some (.ref 16), some (.int tl), some (.int y), some (.int x)]) (by decide +kernel) rfl (fun z => by cases z) (fun _ => rfl) (fun _ => Nat.le_of_ble_eq_true rfl) ?_
  refine aw_aload_n (pc' := 1) eX6_act_0 rfl rfl trivial ?_
  refine aw_Oget (pc' := 4) (ci := 6) (kf := 0) (N := 14) (.ref 17) hO eX6_act_1 rfl rfl rfl inX6 (by decide) q250 rfl ?_
  refine aw_iload_n (pc' := 5) eX6_act_4 rfl rfl ?_
  refine aw_callv (pc' := 8) (nn := 1) (c_X5_has (d := d - 1) hN hm hm6 _ (by omega)) eX6_act_5 rfl ⟨q305, q308, q56⟩ q306 q307 ⟨rfl, by decide +kernel, by decide +kernel, by decide +kernel⟩ rfl hN.ob rfl ⟨by omega, by decide⟩ ⟨by omega, by omega⟩ rfl (Nat.le_of_ble_eq_true rfl) (fun v1 h2 hq3 => ?_)
  obtain ⟨rfl, rfl⟩ := hq3
  dsimp only [Option.toList, List.cons_append, List.nil_append]
  refine aw_if_eq (pc' := 11) (tgt := 20) eX6_act_8 rfl (by decide) (fun c_8 => ?_) (fun c_8 => ?_)
  · refine aw_aload_n (pc' := 21) eX6_act_20 rfl rfl trivial ?_
    refine aw_Oget (pc' := 24) (ci := 6) (kf := 13) (N := 14) (.ref 63) hO eX6_act_21 rfl rfl rfl inX6 (by decide) q263 rfl ?_
    refine aw_iconst (pc' := 25) (v := 0) eX6_act_24 rfl (by decide) ?_
    refine aw_OputN (pc' := 28) (ci := 4) (kf := 1) (N := 5) (ty0 := tyX4) [.ref (63 + 1), .int (nI 0), .int i, .int K, .int v] (hV).1 eX6_act_25 rfl rfl rfl inX4 tyX4_ok nmX4 (by decide) rfl (by decide) rfl (by first | trivial | exact Or.inl rfl | exact Or.inr rfl | (simp [zfit]; done)) rfl (fun h7 hO5 hs6 => ?_)
    have hX4 : VAt _ 63 i K v (s.1, 0) := ⟨hO5, (hV).2.fr hs6 (by omega)⟩
    have hz8 := hs6.w (w2 := 63) (n2 := 2) (by omega) (by omega)
    have hF9 := hO.fr hs6 (by omega)
    have hF10 := hN.fr hs6 (by omega)
    refine aw_iconst (pc' := 29) (v := 0) eX6_act_28 rfl (by decide) ?_
    refine aw_ret (v := some (.int _)) eX6_act_29 ⟨rfl, rfl⟩ (by omega) (by omega) rfl ?_
    rw [sAct, if_neg (fun z => by rw [(zb_eq0.mp c_8)] at z; exact absurd z.1 (by decide))]
    exact ⟨rfl, ⟨i, K, v, hX4⟩, hz8⟩
  · refine aw_iload_n (pc' := 12) eX6_act_11 rfl rfl ?_
    refine aw_if_lt (pc' := 15) (tgt := 20) eX6_act_12 rfl (by decide) (fun c_12 => ?_) (fun c_12 => ?_)
    · refine aw_aload_n (pc' := 21) eX6_act_20 rfl rfl trivial ?_
      refine aw_Oget (pc' := 24) (ci := 6) (kf := 13) (N := 14) (.ref 63) hO eX6_act_21 rfl rfl rfl inX6 (by decide) q263 rfl ?_
      refine aw_iconst (pc' := 25) (v := 0) eX6_act_24 rfl (by decide) ?_
      refine aw_OputN (pc' := 28) (ci := 4) (kf := 1) (N := 5) (ty0 := tyX4) [.ref (63 + 1), .int (nI 0), .int i, .int K, .int v] (hV).1 eX6_act_25 rfl rfl rfl inX4 tyX4_ok nmX4 (by decide) rfl (by decide) rfl (by first | trivial | exact Or.inl rfl | exact Or.inr rfl | (simp [zfit]; done)) rfl (fun h14 hO12 hs13 => ?_)
      have hX11 : VAt _ 63 i K v (s.1, 0) := ⟨hO12, (hV).2.fr hs13 (by omega)⟩
      have hz15 := hs13.w (w2 := 63) (n2 := 2) (by omega) (by omega)
      have hF16 := hO.fr hs13 (by omega)
      have hF17 := hN.fr hs13 (by omega)
      refine aw_iconst (pc' := 29) (v := 0) eX6_act_28 rfl (by decide) ?_
      refine aw_ret (v := some (.int _)) eX6_act_29 ⟨rfl, rfl⟩ (by omega) (by omega) rfl ?_
      rw [sAct, if_neg (fun z => by rw [(bI_f1 c_12)] at z; exact absurd z.2 (by decide))]
      exact ⟨rfl, ⟨i, K, v, hX11⟩, hz15⟩
    · refine aw_iload_n (pc' := 16) eX6_act_15 rfl rfl ?_
      refine aw_iconst (pc' := 17) (v := 2) eX6_act_16 rfl (by decide) ?_
      refine aw_icmp_le (pc' := 20) (tgt := 30) eX6_act_17 rfl (by decide) (fun c_17 => ?_) (fun c_17 => ?_)
      · have hb9 := zb_ne0.mp c_8
        obtain ⟨b, hb, rfl⟩ := (bIn_one hm6).mp hb9
        have clb : (nI b).toNatClampNeg = b := nI_clamp (by omega)
        obtain ⟨K9, hK7, eK⟩ := hK b hb
        have clK : (nI K9).toNatClampNeg = K9 := nI_clamp (by omega)
        have ha9 : bIn y 0 2 = true := bI_tle c_12 c_17
        obtain ⟨y, hy, rfl⟩ := (bIn_lit (N := 2) (by omega)).mp ha9
        have cly : (nI y).toNatClampNeg = y := nI_clamp (by omega)
        refine aw_aload_n (pc' := 31) eX6_act_30 rfl rfl trivial ?_
        refine aw_Oget (pc' := 34) (ci := 6) (kf := 13) (N := 14) (.ref 63) hO eX6_act_31 rfl rfl rfl inX6 (by decide) q263 rfl ?_
        refine aw_iload_n (pc' := 35) eX6_act_34 rfl rfl ?_
        refine aw_aload_n (pc' := 36) eX6_act_35 rfl rfl trivial ?_
        refine aw_Oget (pc' := 39) (ci := 6) (kf := 0) (N := 14) (.ref 17) hO eX6_act_36 rfl rfl rfl inX6 (by decide) q250 rfl ?_
        refine aw_Fref (pc' := 42) (kf := 1) hN eX6_act_39 rfl (by decide) q99 ?_
        refine aw_iload_n (pc' := 43) eX6_act_42 rfl rfl ?_
        refine aw_Fld (pc' := 44) 1 0 b hN eX6_act_43 rfl (by decide) rfl (show vp_in _ 6 from vp_in_nI (by omega) (by omega)) (nI_clamp (by omega)) ?_
        dsimp only [Nat.add_zero]
        refine aw_aload_n (pc' := 45) eX6_act_44 rfl rfl trivial ?_
        refine aw_Oget (pc' := 48) (ci := 6) (kf := 0) (N := 14) (.ref 17) hO eX6_act_45 rfl rfl rfl inX6 (by decide) q250 rfl ?_
        refine aw_Fref (pc' := 51) (kf := 2) hN eX6_act_48 rfl (by decide) q101 ?_
        refine aw_iload_n (pc' := 52) eX6_act_51 rfl rfl ?_
        refine aw_Fld (pc' := 53) 2 1 b hN eX6_act_52 rfl (by decide) rfl (show vp_in _ 6 from vp_in_nI (by omega) (by omega)) (nI_clamp (by omega)) ?_
        refine aw_callv (pc' := 56) (nn := 3) (c_X4_becomesThatOf (d := d - 1) hV _ _ _ (by omega)) eX6_act_53 rfl ⟨q715, q718, q60⟩ q716 q717 ⟨rfl, by decide +kernel, by decide +kernel, by decide +kernel⟩ rfl (hV).ob rfl ⟨by omega, by decide⟩ ⟨by omega, by omega⟩ rfl (Nat.le_of_ble_eq_true rfl) (fun v20 h21 hq22 => ?_)
        obtain ⟨rfl, hV18, hs19⟩ := hq22
        rw [eK] at hV18
        have hz23 := hs19.w (w2 := 63) (n2 := 2) (by omega) (by omega)
        have hF24 := hO.fr hs19 (by omega)
        have hF25 := hN.fr hs19 (by omega)
        dsimp only [Option.toList, List.cons_append, List.nil_append]
        refine aw_aload_n (pc' := 57) eX6_act_56 rfl rfl trivial ?_
        refine aw_Oget (pc' := 60) (ci := 6) (kf := 13) (N := 14) (.ref 63) hF24 eX6_act_57 rfl rfl rfl inX6 (by decide) q263 rfl ?_
        refine aw_iload_n (pc' := 61) eX6_act_60 rfl rfl ?_
        refine aw_iload_n (pc' := 62) eX6_act_61 rfl rfl ?_
        refine aw_callv (pc' := 65) (nn := 2) (c_X4_does (d := d - 1) hK7 (a := y) (by omega) (by show 0 ≤ 1000; omega) hV18 (by omega)) eX6_act_62 rfl ⟨q719, q722, q60⟩ q720 q721 ⟨rfl, by decide +kernel, by decide +kernel, by decide +kernel⟩ rfl (hV18).ob rfl ⟨by omega, by decide⟩ ⟨by omega, by omega⟩ rfl (Nat.le_of_ble_eq_true rfl) (fun v28 h29 hq30 => ?_)
        obtain ⟨rfl, hV26, hs27⟩ := hq30
        have hz31 := hs27.w (w2 := 63) (n2 := 2) (by omega) (by omega)
        have hT32 := hz23.tr hz31
        have hF33 := hF24.fr hs27 (by omega)
        have hF34 := hF25.fr hs27 (by omega)
        dsimp only [Option.toList, List.cons_append, List.nil_append]
        refine aw_ret (v := some (.int _)) eX6_act_65 ⟨rfl, rfl⟩ (by omega) (by omega) rfl ?_
        rw [sAct, if_pos ⟨hb9, ha9⟩, clb, cly, eK, clK]
        exact ⟨rfl, ⟨_, _, _, hV26⟩, hT32⟩
      · refine aw_aload_n (pc' := 21) eX6_act_20 rfl rfl trivial ?_
        refine aw_Oget (pc' := 24) (ci := 6) (kf := 13) (N := 14) (.ref 63) hO eX6_act_21 rfl rfl rfl inX6 (by decide) q263 rfl ?_
        refine aw_iconst (pc' := 25) (v := 0) eX6_act_24 rfl (by decide) ?_
        refine aw_OputN (pc' := 28) (ci := 4) (kf := 1) (N := 5) (ty0 := tyX4) [.ref (63 + 1), .int (nI 0), .int i, .int K, .int v] (hV).1 eX6_act_25 rfl rfl rfl inX4 tyX4_ok nmX4 (by decide) rfl (by decide) rfl (by first | trivial | exact Or.inl rfl | exact Or.inr rfl | (simp [zfit]; done)) rfl (fun h38 hO36 hs37 => ?_)
        have hX35 : VAt _ 63 i K v (s.1, 0) := ⟨hO36, (hV).2.fr hs37 (by omega)⟩
        have hz39 := hs37.w (w2 := 63) (n2 := 2) (by omega) (by omega)
        have hF40 := hO.fr hs37 (by omega)
        have hF41 := hN.fr hs37 (by omega)
        refine aw_iconst (pc' := 29) (v := 0) eX6_act_28 rfl (by decide) ?_
        refine aw_ret (v := some (.int _)) eX6_act_29 ⟨rfl, rfl⟩ (by omega) (by omega) rfl ?_
        rw [sAct, if_neg (fun z => by rw [(bI_fle c_17)] at z; exact absurd z.2 (by decide))]
        exact ⟨rfl, ⟨i, K, v, hX35⟩, hz39⟩
abbrev mX6_trace : MT := (RX6, cX6_trace, 2, (some .int), false)
theorem eX6_trace_0 : decode mX6_trace.2.1 0 = .ok (.iload_n 1, 1) := by decide +kernel
theorem eX6_trace_1 : decode mX6_trace.2.1 1 = .ok (.ifCond .lt 26, 3) := by decide +kernel
theorem eX6_trace_4 : decode mX6_trace.2.1 4 = .ok (.iload_n 1, 1) := by decide +kernel
theorem eX6_trace_5 : decode mX6_trace.2.1 5 = .ok (.aload_n 0, 1) := by decide +kernel
theorem eX6_trace_6 : decode mX6_trace.2.1 6 = .ok (.getfield 73, 3) := by decide +kernel
theorem eX6_trace_9 : decode mX6_trace.2.1 9 = .ok (.getfield 224, 3) := by decide +kernel
theorem eX6_trace_12 : decode mX6_trace.2.1 12 = .ok (.if_icmp .ge 15, 3) := by decide +kernel
theorem eX6_trace_15 : decode mX6_trace.2.1 15 = .ok (.iload_n 1, 1) := by decide +kernel
theorem eX6_trace_16 : decode mX6_trace.2.1 16 = .ok (.aload_n 0, 1) := by decide +kernel
theorem eX6_trace_17 : decode mX6_trace.2.1 17 = .ok (.getfield 73, 3) := by decide +kernel
theorem eX6_trace_20 : decode mX6_trace.2.1 20 = .ok (.getfield 234, 3) := by decide +kernel
theorem eX6_trace_23 : decode mX6_trace.2.1 23 = .ok (.arraylength, 1) := by decide +kernel
theorem eX6_trace_24 : decode mX6_trace.2.1 24 = .ok (.if_icmp .lt 5, 3) := by decide +kernel
theorem eX6_trace_27 : decode mX6_trace.2.1 27 = .ok (.iconst (-1), 1) := by decide +kernel
theorem eX6_trace_28 : decode mX6_trace.2.1 28 = .ok (.ireturn, 1) := by decide +kernel
theorem eX6_trace_29 : decode mX6_trace.2.1 29 = .ok (.aload_n 0, 1) := by decide +kernel
theorem eX6_trace_30 : decode mX6_trace.2.1 30 = .ok (.getfield 73, 3) := by decide +kernel
theorem eX6_trace_33 : decode mX6_trace.2.1 33 = .ok (.getfield 234, 3) := by decide +kernel
theorem eX6_trace_36 : decode mX6_trace.2.1 36 = .ok (.iload_n 1, 1) := by decide +kernel
theorem eX6_trace_37 : decode mX6_trace.2.1 37 = .ok (.iaload, 1) := by decide +kernel
theorem eX6_trace_38 : decode mX6_trace.2.1 38 = .ok (.ireturn, 1) := by decide +kernel
theorem c_X6_trace (hO : OA h 16 (.inr (6, afs bi se))) {i K v : Int32} {s : TS} (hV : VAt h 63 i K v s) (hs : s.2 < 2 ^ 31) (x : Int32) (hd : 0 ≤ d) : Ct l G mX6_trace yX6_trace d 0 0 [.ref 16, .int x] h (fun r h' => r = some (.int (sTrace s.1 (nI s.2) x)) ∧ h' = h) := by
  refine ct_of (lv := [some (.ref 16), some (.int x)]) (by decide +kernel) rfl (fun z => by cases z) (fun _ => rfl) (fun _ => Nat.le_of_ble_eq_true rfl) ?_
  refine aw_iload_n (pc' := 1) eX6_trace_0 rfl rfl ?_
  refine aw_if_lt (pc' := 4) (tgt := 27) eX6_trace_1 rfl (by decide) (fun c_1 => ?_) (fun c_1 => ?_)
  · refine aw_iconst (pc' := 28) (v := -1) eX6_trace_27 rfl (by decide) ?_
    refine aw_ret (v := some (.int _)) eX6_trace_28 ⟨rfl, rfl⟩ (by omega) (by omega) rfl ?_
    rw [sTrace, if_neg (by rw [(bI_f1 c_1)]; decide)]
    exact ⟨rfl, rfl⟩
  · refine aw_iload_n (pc' := 5) eX6_trace_4 rfl rfl ?_
    refine aw_aload_n (pc' := 6) eX6_trace_5 rfl rfl trivial ?_
    refine aw_Oget (pc' := 9) (ci := 6) (kf := 13) (N := 14) (.ref 63) hO eX6_trace_6 rfl rfl rfl inX6 (by decide) q263 rfl ?_
    refine aw_OgetN (pc' := 12) (ci := 4) (kf := 1) (N := 5) (.int (nI s.2)) (hV).1 eX6_trace_9 rfl rfl rfl inX4 (by decide) rfl (by decide) rfl ?_
    refine aw_icmp_ge (pc' := 15) (tgt := 27) eX6_trace_12 rfl (by decide) (fun c_12 => ?_) (fun c_12 => ?_)
    · refine aw_iconst (pc' := 28) (v := -1) eX6_trace_27 rfl (by decide) ?_
      refine aw_ret (v := some (.int _)) eX6_trace_28 ⟨rfl, rfl⟩ (by omega) (by omega) rfl ?_
      rw [sTrace, if_neg (by rw [(tr_f hs (Or.inl c_12))]; decide)]
      exact ⟨rfl, rfl⟩
    · refine aw_iload_n (pc' := 16) eX6_trace_15 rfl rfl ?_
      refine aw_aload_n (pc' := 17) eX6_trace_16 rfl rfl trivial ?_
      refine aw_Oget (pc' := 20) (ci := 6) (kf := 13) (N := 14) (.ref 63) hO eX6_trace_17 rfl rfl rfl inX6 (by decide) q263 rfl ?_
      refine aw_OgetN (pc' := 23) (ci := 4) (kf := 0) (N := 5) (.ref (63 + 1)) (hV).1 eX6_trace_20 rfl rfl rfl inX4 (by decide) rfl (by decide) rfl ?_
      refine aw_Alen (pc' := 24) (hV).2 eX6_trace_23 rfl (by decide) ?_
      refine aw_icmp_lt (pc' := 27) (tgt := 29) eX6_trace_24 rfl (by decide) (fun c_24 => ?_) (fun c_24 => ?_)
      · obtain ⟨ht9, q, hq, rfl⟩ := tr_t hs c_1 c_12 c_24
        refine aw_aload_n (pc' := 30) eX6_trace_29 rfl rfl trivial ?_
        refine aw_Oget (pc' := 33) (ci := 6) (kf := 13) (N := 14) (.ref 63) hO eX6_trace_30 rfl rfl rfl inX6 (by decide) q263 rfl ?_
        refine aw_OgetN (pc' := 36) (ci := 4) (kf := 0) (N := 5) (.ref (63 + 1)) (hV).1 eX6_trace_33 rfl rfl rfl inX4 (by decide) rfl (by decide) rfl ?_
        refine aw_iload_n (pc' := 37) eX6_trace_36 rfl rfl ?_
        refine aw_Ail (pc' := 38) q (hV).2 eX6_trace_37 rfl (show vp_in _ 20 from vp_in_nI (by omega) (by omega)) (nI_clamp (by omega)) ?_
        refine aw_ret (v := some (.int _)) eX6_trace_38 ⟨rfl, rfl⟩ (by omega) (by omega) rfl ?_
        rw [sTrace, if_pos ht9, nI_clamp (by omega)]
        exact ⟨rfl, rfl⟩
      · refine aw_iconst (pc' := 28) (v := -1) eX6_trace_27 rfl (by decide) ?_
        refine aw_ret (v := some (.int _)) eX6_trace_28 ⟨rfl, rfl⟩ (by omega) (by omega) rfl ?_
        rw [sTrace, if_neg (by rw [(tr_f hs (Or.inr c_24))]; decide)]
        exact ⟨rfl, rfl⟩
abbrev mX6_taken : MT := (RX6, cX6_taken, 5, (some .int), false)
theorem eX6_taken_0 : decode mX6_taken.2.1 0 = .ok (.iload_n 2, 1) := by decide +kernel
theorem eX6_taken_1 : decode mX6_taken.2.1 1 = .ok (.ifCond .lt 9, 3) := by decide +kernel
theorem eX6_taken_4 : decode mX6_taken.2.1 4 = .ok (.iload_n 2, 1) := by decide +kernel
theorem eX6_taken_5 : decode mX6_taken.2.1 5 = .ok (.bipush 6, 2) := by decide +kernel
theorem eX6_taken_7 : decode mX6_taken.2.1 7 = .ok (.if_icmp .le 6, 3) := by decide +kernel
theorem eX6_taken_10 : decode mX6_taken.2.1 10 = .ok (.bipush (-2), 2) := by decide +kernel
theorem eX6_taken_12 : decode mX6_taken.2.1 12 = .ok (.ireturn, 1) := by decide +kernel
theorem eX6_taken_13 : decode mX6_taken.2.1 13 = .ok (.aload_n 0, 1) := by decide +kernel
theorem eX6_taken_14 : decode mX6_taken.2.1 14 = .ok (.getfield 16, 3) := by decide +kernel
theorem eX6_taken_17 : decode mX6_taken.2.1 17 = .ok (.iload_n 1, 1) := by decide +kernel
theorem eX6_taken_18 : decode mX6_taken.2.1 18 = .ok (.invokevirtual 85, 3) := by decide +kernel
theorem eX6_taken_21 : decode mX6_taken.2.1 21 = .ok (.ifCond .ne 6, 3) := by decide +kernel
theorem eX6_taken_24 : decode mX6_taken.2.1 24 = .ok (.bipush (-11), 2) := by decide +kernel
theorem eX6_taken_26 : decode mX6_taken.2.1 26 = .ok (.ireturn, 1) := by decide +kernel
theorem eX6_taken_27 : decode mX6_taken.2.1 27 = .ok (.aload_n 0, 1) := by decide +kernel
theorem eX6_taken_28 : decode mX6_taken.2.1 28 = .ok (.getfield 16, 3) := by decide +kernel
theorem eX6_taken_31 : decode mX6_taken.2.1 31 = .ok (.getfield 89, 3) := by decide +kernel
theorem eX6_taken_34 : decode mX6_taken.2.1 34 = .ok (.iload_n 1, 1) := by decide +kernel
theorem eX6_taken_35 : decode mX6_taken.2.1 35 = .ok (.iaload, 1) := by decide +kernel
theorem eX6_taken_36 : decode mX6_taken.2.1 36 = .ok (.istore_n 3, 1) := by decide +kernel
theorem eX6_taken_37 : decode mX6_taken.2.1 37 = .ok (.iload_n 2, 1) := by decide +kernel
theorem eX6_taken_38 : decode mX6_taken.2.1 38 = .ok (.ifCond .eq 16, 3) := by decide +kernel
theorem eX6_taken_41 : decode mX6_taken.2.1 41 = .ok (.iload_n 2, 1) := by decide +kernel
theorem eX6_taken_42 : decode mX6_taken.2.1 42 = .ok (.iload_n 3, 1) := by decide +kernel
theorem eX6_taken_43 : decode mX6_taken.2.1 43 = .ok (.if_icmp .eq 11, 3) := by decide +kernel
theorem eX6_taken_46 : decode mX6_taken.2.1 46 = .ok (.iload_n 2, 1) := by decide +kernel
theorem eX6_taken_47 : decode mX6_taken.2.1 47 = .ok (.iload_n 3, 1) := by decide +kernel
theorem eX6_taken_48 : decode mX6_taken.2.1 48 = .ok (.invokestatic 237, 3) := by decide +kernel
theorem eX6_taken_51 : decode mX6_taken.2.1 51 = .ok (.if_icmp .ne 7, 3) := by decide +kernel
theorem eX6_taken_54 : decode mX6_taken.2.1 54 = .ok (.iconst 1, 1) := by decide +kernel
theorem eX6_taken_55 : decode mX6_taken.2.1 55 = .ok (.goto 4, 3) := by decide +kernel
theorem eX6_taken_58 : decode mX6_taken.2.1 58 = .ok (.iconst 0, 1) := by decide +kernel
theorem eX6_taken_59 : decode mX6_taken.2.1 59 = .ok (.istore 4, 2) := by decide +kernel
theorem eX6_taken_61 : decode mX6_taken.2.1 61 = .ok (.iload 4, 2) := by decide +kernel
theorem eX6_taken_63 : decode mX6_taken.2.1 63 = .ok (.ifCond .eq 7, 3) := by decide +kernel
theorem eX6_taken_66 : decode mX6_taken.2.1 66 = .ok (.iload_n 3, 1) := by decide +kernel
theorem eX6_taken_67 : decode mX6_taken.2.1 67 = .ok (.goto 5, 3) := by decide +kernel
theorem eX6_taken_70 : decode mX6_taken.2.1 70 = .ok (.bipush (-12), 2) := by decide +kernel
theorem eX6_taken_72 : decode mX6_taken.2.1 72 = .ok (.ireturn, 1) := by decide +kernel
theorem c_X6_taken (hO : OA h 16 (.inr (6, afs bi se))) (hN : WF F h 17 g (nI 9999)) (hm : g 60 = nI m) (hm6 : m ≤ 6) (hK : gK g m) (tl x : Int32) (hd : 2 ≤ d) : Ct l G mX6_taken yX6_taken d 0 0 [.ref 16, .int tl, .int x] h (fun r h' => r = some (.int (sTaken g m tl x)) ∧ h' = h) := by
  refine ct_of (lv := [some (.ref 16), some (.int tl), some (.int x), none, none]) (by decide +kernel) rfl (fun z => by cases z) (fun _ => rfl) (fun _ => Nat.le_of_ble_eq_true rfl) ?_
  refine aw_iload_n (pc' := 1) eX6_taken_0 rfl rfl ?_
  refine aw_if_lt (pc' := 4) (tgt := 10) eX6_taken_1 rfl (by decide) (fun c_1 => ?_) (fun c_1 => ?_)
  · refine aw_bipush (pc' := 12) (v := -2) eX6_taken_10 rfl (by decide) ?_
    refine aw_ret (v := some (.int _)) eX6_taken_12 ⟨rfl, rfl⟩ (by omega) (by omega) rfl ?_
    rw [sTaken, if_neg (by rw [(bI_f1 c_1)]; decide)]
    exact ⟨rfl, rfl⟩
  · refine aw_iload_n (pc' := 5) eX6_taken_4 rfl rfl ?_
    refine aw_bipush (pc' := 7) (v := 6) eX6_taken_5 rfl (by decide) ?_
    refine aw_icmp_le (pc' := 10) (tgt := 13) eX6_taken_7 rfl (by decide) (fun c_7 => ?_) (fun c_7 => ?_)
    · refine aw_aload_n (pc' := 14) eX6_taken_13 rfl rfl trivial ?_
      refine aw_Oget (pc' := 17) (ci := 6) (kf := 0) (N := 14) (.ref 17) hO eX6_taken_14 rfl rfl rfl inX6 (by decide) q250 rfl ?_
      refine aw_iload_n (pc' := 18) eX6_taken_17 rfl rfl ?_
      refine aw_callv (pc' := 21) (nn := 1) (c_X5_has (d := d - 1) hN hm hm6 _ (by omega)) eX6_taken_18 rfl ⟨q305, q308, q56⟩ q306 q307 ⟨rfl, by decide +kernel, by decide +kernel, by decide +kernel⟩ rfl hN.ob rfl ⟨by omega, by decide⟩ ⟨by omega, by omega⟩ rfl (Nat.le_of_ble_eq_true rfl) (fun v1 h2 hq3 => ?_)
      obtain ⟨rfl, rfl⟩ := hq3
      dsimp only [Option.toList, List.cons_append, List.nil_append]
      refine aw_if_ne (pc' := 24) (tgt := 27) eX6_taken_21 rfl (by decide) (fun c_21 => ?_) (fun c_21 => ?_)
      · have hb9 := zb_ne0.mp c_21
        obtain ⟨b, hb, rfl⟩ := (bIn_one hm6).mp hb9
        have clb : (nI b).toNatClampNeg = b := nI_clamp (by omega)
        obtain ⟨K9, hK7, eK⟩ := hK b hb
        refine aw_aload_n (pc' := 28) eX6_taken_27 rfl rfl trivial ?_
        refine aw_Oget (pc' := 31) (ci := 6) (kf := 0) (N := 14) (.ref 17) hO eX6_taken_28 rfl rfl rfl inX6 (by decide) q250 rfl ?_
        refine aw_Fref (pc' := 34) (kf := 1) hN eX6_taken_31 rfl (by decide) q99 ?_
        refine aw_iload_n (pc' := 35) eX6_taken_34 rfl rfl ?_
        refine aw_Fld (pc' := 36) 1 0 b hN eX6_taken_35 rfl (by decide) rfl (show vp_in _ 6 from vp_in_nI (by omega) (by omega)) (nI_clamp (by omega)) ?_
        dsimp only [Nat.add_zero]
        rw [eK]
        refine aw_istore_n (pc' := 37) eX6_taken_36 rfl (by decide) ?_
        dsimp only [zst, zst2, zcut]
        refine aw_iload_n (pc' := 38) eX6_taken_37 rfl rfl ?_
        refine aw_if_eq (pc' := 41) (tgt := 54) eX6_taken_38 rfl (by decide) (fun c_38 => ?_) (fun c_38 => ?_)
        · refine aw_iconst (pc' := 55) (v := 1) eX6_taken_54 rfl (by decide) ?_
          refine aw_goto eX6_taken_55 (by decide) (tgt := 59) ?_
          refine aw_istore (pc' := 61) eX6_taken_59 rfl (by decide) ?_
          dsimp only [zst, zst2, zcut]
          refine aw_iload (pc' := 63) eX6_taken_61 rfl rfl ?_
          refine aw_if_eq (pc' := 66) (tgt := 70) eX6_taken_63 rfl (by decide) (fun c_63 => ?_) (fun c_63 => ?_)
          · exact absurd c_63 (by decide)
          · refine aw_iload_n (pc' := 67) eX6_taken_66 rfl rfl ?_
            refine aw_goto eX6_taken_67 (by decide) (tgt := 72) ?_
            refine aw_ret (v := some (.int _)) eX6_taken_72 ⟨rfl, rfl⟩ (by omega) (by omega) rfl ?_
            have hk9 : sTk (nI K9) x = true := by rw [tk_eq hK7]; rw [decide_eq_true c_38]; rfl
            rw [sTaken, if_pos (bI_tle c_1 c_7), if_pos hb9, clb, eK, if_pos hk9]
            exact ⟨rfl, rfl⟩
        · refine aw_iload_n (pc' := 42) eX6_taken_41 rfl rfl ?_
          refine aw_iload_n (pc' := 43) eX6_taken_42 rfl rfl ?_
          refine aw_icmp_eq (pc' := 46) (tgt := 54) eX6_taken_43 rfl (by decide) (fun c_43 => ?_) (fun c_43 => ?_)
          · refine aw_iconst (pc' := 55) (v := 1) eX6_taken_54 rfl (by decide) ?_
            refine aw_goto eX6_taken_55 (by decide) (tgt := 59) ?_
            refine aw_istore (pc' := 61) eX6_taken_59 rfl (by decide) ?_
            dsimp only [zst, zst2, zcut]
            refine aw_iload (pc' := 63) eX6_taken_61 rfl rfl ?_
            refine aw_if_eq (pc' := 66) (tgt := 70) eX6_taken_63 rfl (by decide) (fun c_63 => ?_) (fun c_63 => ?_)
            · exact absurd c_63 (by decide)
            · refine aw_iload_n (pc' := 67) eX6_taken_66 rfl rfl ?_
              refine aw_goto eX6_taken_67 (by decide) (tgt := 72) ?_
              refine aw_ret (v := some (.int _)) eX6_taken_72 ⟨rfl, rfl⟩ (by omega) (by omega) rfl ?_
              have hk9 : sTk (nI K9) x = true := by rw [tk_eq hK7]; rw [decide_eq_true c_43, Bool.or_true]; rfl
              rw [sTaken, if_pos (bI_tle c_1 c_7), if_pos hb9, clb, eK, if_pos hk9]
              exact ⟨rfl, rfl⟩
          · refine aw_iload_n (pc' := 47) eX6_taken_46 rfl rfl ?_
            refine aw_iload_n (pc' := 48) eX6_taken_47 rfl rfl ?_
            refine aw_calls (pc' := 51) (nn := 1) (c_X4_kindAbove (d := d - 1) hK7 (by omega)) eX6_taken_48 rfl ⟨q741, q743, q60⟩ q742 ⟨by decide +kernel, by decide +kernel, by decide +kernel⟩ rfl ⟨by omega, by decide⟩ ⟨by omega, by omega⟩ rfl (Nat.le_of_ble_eq_true rfl) (fun v4 h5 hq6 => ?_)
            obtain ⟨rfl, rfl⟩ := hq6
            dsimp only [Option.toList, List.cons_append, List.nil_append]
            refine aw_icmp_ne (pc' := 54) (tgt := 58) eX6_taken_51 rfl (by decide) (fun c_51 => ?_) (fun c_51 => ?_)
            · refine aw_iconst (pc' := 59) (v := 0) eX6_taken_58 rfl (by decide) ?_
              refine aw_istore (pc' := 61) eX6_taken_59 rfl (by decide) ?_
              dsimp only [zst, zst2, zcut]
              refine aw_iload (pc' := 63) eX6_taken_61 rfl rfl ?_
              refine aw_if_eq (pc' := 66) (tgt := 70) eX6_taken_63 rfl (by decide) (fun c_63 => ?_) (fun c_63 => ?_)
              · refine aw_bipush (pc' := 72) (v := -12) eX6_taken_70 rfl (by decide) ?_
                refine aw_ret (v := some (.int _)) eX6_taken_72 ⟨rfl, rfl⟩ (by omega) (by omega) rfl ?_
                have hk9 : sTk (nI K9) x = false := by rw [tk_eq hK7]; rw [decide_eq_false c_38, decide_eq_false c_43, decide_eq_false c_51]; rfl
                rw [sTaken, if_pos (bI_tle c_1 c_7), if_pos hb9, clb, eK, if_neg (by rw [hk9]; decide)]
                exact ⟨rfl, rfl⟩
              · exact absurd c_63 (by decide)
            · refine aw_iconst (pc' := 55) (v := 1) eX6_taken_54 rfl (by decide) ?_
              refine aw_goto eX6_taken_55 (by decide) (tgt := 59) ?_
              refine aw_istore (pc' := 61) eX6_taken_59 rfl (by decide) ?_
              dsimp only [zst, zst2, zcut]
              refine aw_iload (pc' := 63) eX6_taken_61 rfl rfl ?_
              refine aw_if_eq (pc' := 66) (tgt := 70) eX6_taken_63 rfl (by decide) (fun c_63 => ?_) (fun c_63 => ?_)
              · exact absurd c_63 (by decide)
              · refine aw_iload_n (pc' := 67) eX6_taken_66 rfl rfl ?_
                refine aw_goto eX6_taken_67 (by decide) (tgt := 72) ?_
                refine aw_ret (v := some (.int _)) eX6_taken_72 ⟨rfl, rfl⟩ (by omega) (by omega) rfl ?_
                have hk9 : sTk (nI K9) x = true := by rw [tk_eq hK7]; rw [decide_eq_true c_51, Bool.or_true]
                rw [sTaken, if_pos (bI_tle c_1 c_7), if_pos hb9, clb, eK, if_pos hk9]
                exact ⟨rfl, rfl⟩
      · refine aw_bipush (pc' := 26) (v := -11) eX6_taken_24 rfl (by decide) ?_
        refine aw_ret (v := some (.int _)) eX6_taken_26 ⟨rfl, rfl⟩ (by omega) (by omega) rfl ?_
        rw [sTaken, if_pos (bI_tle c_1 c_7), if_neg (by rw [(zb_eq0.mp c_21)]; decide)]
        exact ⟨rfl, rfl⟩
    · refine aw_bipush (pc' := 12) (v := -2) eX6_taken_10 rfl (by decide) ?_
      refine aw_ret (v := some (.int _)) eX6_taken_12 ⟨rfl, rfl⟩ (by omega) (by omega) rfl ?_
      rw [sTaken, if_neg (by rw [(bI_fle c_7)]; decide)]
      exact ⟨rfl, rfl⟩
abbrev mX6_count : MT := (RX6, cX6_count, 2, (some .int), false)
theorem eX6_count_0 : decode mX6_count.2.1 0 = .ok (.iload_n 1, 1) := by decide +kernel
theorem eX6_count_1 : decode mX6_count.2.1 1 = .ok (.tableswitch 96 0 6 #[43, 51, 56, 64, 72, 80, 88], 43) := by decide +kernel
theorem eX6_count_44 : decode mX6_count.2.1 44 = .ok (.aload_n 0, 1) := by decide +kernel
theorem eX6_count_45 : decode mX6_count.2.1 45 = .ok (.getfield 16, 3) := by decide +kernel
theorem eX6_count_48 : decode mX6_count.2.1 48 = .ok (.getfield 78, 3) := by decide +kernel
theorem eX6_count_51 : decode mX6_count.2.1 51 = .ok (.ireturn, 1) := by decide +kernel
theorem eX6_count_52 : decode mX6_count.2.1 52 = .ok (.aload_n 0, 1) := by decide +kernel
theorem eX6_count_53 : decode mX6_count.2.1 53 = .ok (.getfield 60, 3) := by decide +kernel
theorem eX6_count_56 : decode mX6_count.2.1 56 = .ok (.ireturn, 1) := by decide +kernel
theorem eX6_count_57 : decode mX6_count.2.1 57 = .ok (.aload_n 0, 1) := by decide +kernel
theorem eX6_count_58 : decode mX6_count.2.1 58 = .ok (.getfield 34, 3) := by decide +kernel
theorem eX6_count_61 : decode mX6_count.2.1 61 = .ok (.getfield 201, 3) := by decide +kernel
theorem eX6_count_64 : decode mX6_count.2.1 64 = .ok (.ireturn, 1) := by decide +kernel
theorem eX6_count_65 : decode mX6_count.2.1 65 = .ok (.aload_n 0, 1) := by decide +kernel
theorem eX6_count_66 : decode mX6_count.2.1 66 = .ok (.getfield 38, 3) := by decide +kernel
theorem eX6_count_69 : decode mX6_count.2.1 69 = .ok (.getfield 201, 3) := by decide +kernel
theorem eX6_count_72 : decode mX6_count.2.1 72 = .ok (.ireturn, 1) := by decide +kernel
theorem eX6_count_73 : decode mX6_count.2.1 73 = .ok (.aload_n 0, 1) := by decide +kernel
theorem eX6_count_74 : decode mX6_count.2.1 74 = .ok (.getfield 41, 3) := by decide +kernel
theorem eX6_count_77 : decode mX6_count.2.1 77 = .ok (.getfield 201, 3) := by decide +kernel
theorem eX6_count_80 : decode mX6_count.2.1 80 = .ok (.ireturn, 1) := by decide +kernel
theorem eX6_count_81 : decode mX6_count.2.1 81 = .ok (.aload_n 0, 1) := by decide +kernel
theorem eX6_count_82 : decode mX6_count.2.1 82 = .ok (.getfield 56, 3) := by decide +kernel
theorem eX6_count_85 : decode mX6_count.2.1 85 = .ok (.getfield 240, 3) := by decide +kernel
theorem eX6_count_88 : decode mX6_count.2.1 88 = .ok (.ireturn, 1) := by decide +kernel
theorem eX6_count_89 : decode mX6_count.2.1 89 = .ok (.aload_n 0, 1) := by decide +kernel
theorem eX6_count_90 : decode mX6_count.2.1 90 = .ok (.getfield 73, 3) := by decide +kernel
theorem eX6_count_93 : decode mX6_count.2.1 93 = .ok (.getfield 224, 3) := by decide +kernel
theorem eX6_count_96 : decode mX6_count.2.1 96 = .ok (.ireturn, 1) := by decide +kernel
theorem eX6_count_97 : decode mX6_count.2.1 97 = .ok (.bipush (-2), 2) := by decide +kernel
theorem eX6_count_99 : decode mX6_count.2.1 99 = .ok (.ireturn, 1) := by decide +kernel
theorem c_X6_count (hO : OA h 16 (.inr (6, afs bi se))) (hN : WF F h 17 g (nI 9999)) {a1 a2 a3 ra n : Nat} {f1 f2 f3 R : Nat → Int32} {rb : Bool} {rs : List Int32} {rr : Int32} {i K v : Int32} {s : TS} (hV : VAt h 63 i K v s) (hS : RAt h 47 5 a1 f1) (hP : RAt h 49 10 a2 f2) (hB : RAt h 51 8 a3 f3) (hR : RdAt h 59 n R ra rb rs rr) (w : Int32) (hd : 0 ≤ d) : Ct l G mX6_count yX6_count d 0 0 [.ref 16, .int w] h (fun r h' => r = some (.int (cCnt (g 60) se (nI a1) (nI a2) (nI a3) (nI n) (nI s.2) w)) ∧ h' = h) := by
  refine ct_of (lv := [some (.ref 16), some (.int w)]) (by decide +kernel) rfl (fun z => by cases z) (fun _ => rfl) (fun _ => Nat.le_of_ble_eq_true rfl) ?_
  refine aw_iload_n (pc' := 1) eX6_count_0 rfl rfl ?_
  refine aw_tsw (v := 0) (tgt := 44) eX6_count_1 (by decide) (by decide) rfl (by decide) (fun c_1 => ?_) (fun n_1_0 => ?_)
  · refine aw_aload_n (pc' := 45) eX6_count_44 rfl rfl trivial ?_
    refine aw_Oget (pc' := 48) (ci := 6) (kf := 0) (N := 14) (.ref 17) hO eX6_count_45 rfl rfl rfl inX6 (by decide) q250 rfl ?_
    refine aw_Fint (pc' := 51) (kf := 10) hN eX6_count_48 rfl (by decide) q116 ?_
    refine aw_ret (v := some (.int _)) eX6_count_51 ⟨rfl, rfl⟩ (by omega) (by omega) rfl ?_
    rw [cCnt, if_pos c_1]
    exact ⟨rfl, rfl⟩
  refine aw_tsw (v := 1) (tgt := 52) eX6_count_1 (by decide) (by decide) rfl (by decide) (fun c_1 => ?_) (fun n_1_1 => ?_)
  · refine aw_aload_n (pc' := 53) eX6_count_52 rfl rfl trivial ?_
    refine aw_Oget (pc' := 56) (ci := 6) (kf := 11) (N := 14) (.int se) hO eX6_count_53 rfl rfl rfl inX6 (by decide) q261 rfl ?_
    refine aw_ret (v := some (.int _)) eX6_count_56 ⟨rfl, rfl⟩ (by omega) (by omega) rfl ?_
    rw [cCnt, if_neg n_1_0, if_pos c_1]
    exact ⟨rfl, rfl⟩
  refine aw_tsw (v := 2) (tgt := 57) eX6_count_1 (by decide) (by decide) rfl (by decide) (fun c_1 => ?_) (fun n_1_2 => ?_)
  · refine aw_aload_n (pc' := 58) eX6_count_57 rfl rfl trivial ?_
    refine aw_Oget (pc' := 61) (ci := 6) (kf := 4) (N := 14) (.ref 47) hO eX6_count_58 rfl rfl rfl inX6 (by decide) q254 rfl ?_
    refine aw_OgetN (pc' := 64) (ci := 1) (kf := 2) (N := 3) (.int (nI a1)) (hS).1 eX6_count_61 rfl rfl rfl inX1 (by decide) rfl (by decide) rfl ?_
    refine aw_ret (v := some (.int _)) eX6_count_64 ⟨rfl, rfl⟩ (by omega) (by omega) rfl ?_
    rw [cCnt, if_neg n_1_0, if_neg n_1_1, if_pos c_1]
    exact ⟨rfl, rfl⟩
  refine aw_tsw (v := 3) (tgt := 65) eX6_count_1 (by decide) (by decide) rfl (by decide) (fun c_1 => ?_) (fun n_1_3 => ?_)
  · refine aw_aload_n (pc' := 66) eX6_count_65 rfl rfl trivial ?_
    refine aw_Oget (pc' := 69) (ci := 6) (kf := 5) (N := 14) (.ref 49) hO eX6_count_66 rfl rfl rfl inX6 (by decide) q255 rfl ?_
    refine aw_OgetN (pc' := 72) (ci := 1) (kf := 2) (N := 3) (.int (nI a2)) (hP).1 eX6_count_69 rfl rfl rfl inX1 (by decide) rfl (by decide) rfl ?_
    refine aw_ret (v := some (.int _)) eX6_count_72 ⟨rfl, rfl⟩ (by omega) (by omega) rfl ?_
    rw [cCnt, if_neg n_1_0, if_neg n_1_1, if_neg n_1_2, if_pos c_1]
    exact ⟨rfl, rfl⟩
  refine aw_tsw (v := 4) (tgt := 73) eX6_count_1 (by decide) (by decide) rfl (by decide) (fun c_1 => ?_) (fun n_1_4 => ?_)
  · refine aw_aload_n (pc' := 74) eX6_count_73 rfl rfl trivial ?_
    refine aw_Oget (pc' := 77) (ci := 6) (kf := 6) (N := 14) (.ref 51) hO eX6_count_74 rfl rfl rfl inX6 (by decide) q256 rfl ?_
    refine aw_OgetN (pc' := 80) (ci := 1) (kf := 2) (N := 3) (.int (nI a3)) (hB).1 eX6_count_77 rfl rfl rfl inX1 (by decide) rfl (by decide) rfl ?_
    refine aw_ret (v := some (.int _)) eX6_count_80 ⟨rfl, rfl⟩ (by omega) (by omega) rfl ?_
    rw [cCnt, if_neg n_1_0, if_neg n_1_1, if_neg n_1_2, if_neg n_1_3, if_pos c_1]
    exact ⟨rfl, rfl⟩
  refine aw_tsw (v := 5) (tgt := 81) eX6_count_1 (by decide) (by decide) rfl (by decide) (fun c_1 => ?_) (fun n_1_5 => ?_)
  · refine aw_aload_n (pc' := 82) eX6_count_81 rfl rfl trivial ?_
    refine aw_Oget (pc' := 85) (ci := 6) (kf := 10) (N := 14) (.ref 59) hO eX6_count_82 rfl rfl rfl inX6 (by decide) q260 rfl ?_
    refine aw_OgetN (pc' := 88) (ci := 0) (kf := 2) (N := 7) (.int (nI n)) (hR).1 eX6_count_85 rfl rfl rfl inX0 (by decide) rfl (by decide) rfl ?_
    refine aw_ret (v := some (.int _)) eX6_count_88 ⟨rfl, rfl⟩ (by omega) (by omega) rfl ?_
    rw [cCnt, if_neg n_1_0, if_neg n_1_1, if_neg n_1_2, if_neg n_1_3, if_neg n_1_4, if_pos c_1]
    exact ⟨rfl, rfl⟩
  refine aw_tsw (v := 6) (tgt := 89) eX6_count_1 (by decide) (by decide) rfl (by decide) (fun c_1 => ?_) (fun n_1_6 => ?_)
  · refine aw_aload_n (pc' := 90) eX6_count_89 rfl rfl trivial ?_
    refine aw_Oget (pc' := 93) (ci := 6) (kf := 13) (N := 14) (.ref 63) hO eX6_count_90 rfl rfl rfl inX6 (by decide) q263 rfl ?_
    refine aw_OgetN (pc' := 96) (ci := 4) (kf := 1) (N := 5) (.int (nI s.2)) (hV).1 eX6_count_93 rfl rfl rfl inX4 (by decide) rfl (by decide) rfl ?_
    refine aw_ret (v := some (.int _)) eX6_count_96 ⟨rfl, rfl⟩ (by omega) (by omega) rfl ?_
    rw [cCnt, if_neg n_1_0, if_neg n_1_1, if_neg n_1_2, if_neg n_1_3, if_neg n_1_4, if_neg n_1_5, if_pos c_1]
    exact ⟨rfl, rfl⟩
  refine aw_tswo (tgt := 97) eX6_count_1 (by have g0 := zne n_1_0 (show ((0 : Int32)).toInt = 0 by decide); have g1 := zne n_1_1 (show ((1 : Int32)).toInt = 1 by decide); have g2 := zne n_1_2 (show ((2 : Int32)).toInt = 2 by decide); have g3 := zne n_1_3 (show ((3 : Int32)).toInt = 3 by decide); have g4 := zne n_1_4 (show ((4 : Int32)).toInt = 4 by decide); have g5 := zne n_1_5 (show ((5 : Int32)).toInt = 5 by decide); have g6 := zne n_1_6 (show ((6 : Int32)).toInt = 6 by decide); omega) (by decide) ?_
  refine aw_bipush (pc' := 99) (v := -2) eX6_count_97 rfl (by decide) ?_
  refine aw_ret (v := some (.int _)) eX6_count_99 ⟨rfl, rfl⟩ (by omega) (by omega) rfl ?_
  rw [cCnt, if_neg n_1_0, if_neg n_1_1, if_neg n_1_2, if_neg n_1_3, if_neg n_1_4, if_neg n_1_5, if_neg n_1_6]
  exact ⟨rfl, rfl⟩
abbrev mX6_feed : MT := (RX6, cX6_feed, 2, (some .int), false)
theorem eX6_feed_0 : decode mX6_feed.2.1 0 = .ok (.iload_n 1, 1) := by decide +kernel
theorem eX6_feed_1 : decode mX6_feed.2.1 1 = .ok (.ifCond .lt 9, 3) := by decide +kernel
theorem eX6_feed_4 : decode mX6_feed.2.1 4 = .ok (.iload_n 1, 1) := by decide +kernel
theorem eX6_feed_5 : decode mX6_feed.2.1 5 = .ok (.bipush 127, 2) := by decide +kernel
theorem eX6_feed_7 : decode mX6_feed.2.1 7 = .ok (.if_icmp .le 6, 3) := by decide +kernel
theorem eX6_feed_10 : decode mX6_feed.2.1 10 = .ok (.bipush (-2), 2) := by decide +kernel
theorem eX6_feed_12 : decode mX6_feed.2.1 12 = .ok (.ireturn, 1) := by decide +kernel
theorem eX6_feed_13 : decode mX6_feed.2.1 13 = .ok (.aload_n 0, 1) := by decide +kernel
theorem eX6_feed_14 : decode mX6_feed.2.1 14 = .ok (.getfield 56, 3) := by decide +kernel
theorem eX6_feed_17 : decode mX6_feed.2.1 17 = .ok (.iload_n 1, 1) := by decide +kernel
theorem eX6_feed_18 : decode mX6_feed.2.1 18 = .ok (.invokevirtual 153, 3) := by decide +kernel
theorem eX6_feed_21 : decode mX6_feed.2.1 21 = .ok (.ireturn, 1) := by decide +kernel
theorem c_X6_feed (hO : OA h 16 (.inr (6, afs bi se))) {n ra : Nat} {R : Nat → Int32} {rb : Bool} {rs : List Int32} {rr : Int32} (hR : RdAt h 59 n R ra rb rs rr) (hn : n ≤ 100) (c : Int32) (hd : 1 ≤ d) : Ct l G mX6_feed yX6_feed d 0 0 [.ref 16, .int c] h (fun r h' => r = some (.int (cFeed n R c).1) ∧ RdAt h' 59 (cFeed n R c).2.1 (cFeed n R c).2.2 ra rb rs rr ∧ Same 59 3 h h') := by
  refine ct_of (lv := [some (.ref 16), some (.int c)]) (by decide +kernel) rfl (fun z => by cases z) (fun _ => rfl) (fun _ => Nat.le_of_ble_eq_true rfl) ?_
  refine aw_iload_n (pc' := 1) eX6_feed_0 rfl rfl ?_
  refine aw_if_lt (pc' := 4) (tgt := 10) eX6_feed_1 rfl (by decide) (fun c_1 => ?_) (fun c_1 => ?_)
  · refine aw_bipush (pc' := 12) (v := -2) eX6_feed_10 rfl (by decide) ?_
    refine aw_ret (v := some (.int _)) eX6_feed_12 ⟨rfl, rfl⟩ (by omega) (by omega) rfl ?_
    rw [cFeed, if_neg (by rw [(bI_f1 c_1)]; decide)]
    exact ⟨rfl, hR, Same.rf⟩
  · refine aw_iload_n (pc' := 5) eX6_feed_4 rfl rfl ?_
    refine aw_bipush (pc' := 7) (v := 127) eX6_feed_5 rfl (by decide) ?_
    refine aw_icmp_le (pc' := 10) (tgt := 13) eX6_feed_7 rfl (by decide) (fun c_7 => ?_) (fun c_7 => ?_)
    · have hk9 : bIn c 0 127 = true := bI_tle c_1 c_7
      obtain ⟨k, hk, rfl⟩ := (bIn_lit (N := 127) (by omega)).mp hk9
      refine aw_aload_n (pc' := 14) eX6_feed_13 rfl rfl trivial ?_
      refine aw_Oget (pc' := 17) (ci := 6) (kf := 10) (N := 14) (.ref 59) hO eX6_feed_14 rfl rfl rfl inX6 (by decide) q260 rfl ?_
      by_cases cf : n = 100
      · subst cf
        refine aw_iload_n (pc' := 18) eX6_feed_17 rfl rfl ?_
        refine aw_callv (pc' := 21) (nn := 1) (f_X0_takes (d := d - 1) hR _ (by omega)) eX6_feed_18 rfl ⟨q408, q411, q59⟩ q409 q410 ⟨rfl, by decide +kernel, by decide +kernel, by decide +kernel⟩ rfl (hR).ob rfl ⟨by omega, by decide⟩ ⟨by omega, by omega⟩ rfl (Nat.le_of_ble_eq_true rfl) (fun v1 h2 hq3 => ?_)
        obtain ⟨rfl, rfl⟩ := hq3
        dsimp only [Option.toList, List.cons_append, List.nil_append]
        refine aw_ret (v := some (.int _)) eX6_feed_21 ⟨rfl, rfl⟩ (by omega) (by omega) rfl ?_
        rw [cFeed, if_pos hk9, if_pos rfl]
        exact ⟨rfl, hR, Same.rf⟩
      · refine aw_iload_n (pc' := 18) eX6_feed_17 rfl rfl ?_
        refine aw_callv (pc' := 21) (nn := 1) (c_X0_takes (d := d - 1) hR (by omega) (k := k) (by omega) (by omega)) eX6_feed_18 rfl ⟨q408, q411, q59⟩ q409 q410 ⟨rfl, by decide +kernel, by decide +kernel, by decide +kernel⟩ rfl (hR).ob rfl ⟨by omega, by decide⟩ ⟨by omega, by omega⟩ rfl (Nat.le_of_ble_eq_true rfl) (fun v6 h7 hq8 => ?_)
        obtain ⟨rfl, hR4, hs5⟩ := hq8
        have hF9 := hO.fr hs5 (by omega)
        dsimp only [Option.toList, List.cons_append, List.nil_append]
        refine aw_ret (v := some (.int _)) eX6_feed_21 ⟨rfl, rfl⟩ (by omega) (by omega) rfl ?_
        rw [cFeed, if_pos hk9, if_neg cf]
        exact ⟨rfl, hR4, hs5⟩
    · refine aw_bipush (pc' := 12) (v := -2) eX6_feed_10 rfl (by decide) ?_
      refine aw_ret (v := some (.int _)) eX6_feed_12 ⟨rfl, rfl⟩ (by omega) (by omega) rfl ?_
      rw [cFeed, if_neg (by rw [(bI_fle c_7)]; decide)]
      exact ⟨rfl, hR, Same.rf⟩
abbrev mX6_image : MT := (RX6, cX6_image, 1, (some .int), false)
theorem eX6_image_0 : decode mX6_image.2.1 0 = .ok (.aload_n 0, 1) := by decide +kernel
theorem eX6_image_1 : decode mX6_image.2.1 1 = .ok (.getfield 24, 3) := by decide +kernel
theorem eX6_image_4 : decode mX6_image.2.1 4 = .ok (.aload_n 0, 1) := by decide +kernel
theorem eX6_image_5 : decode mX6_image.2.1 5 = .ok (.getfield 16, 3) := by decide +kernel
theorem eX6_image_8 : decode mX6_image.2.1 8 = .ok (.invokevirtual 118, 3) := by decide +kernel
theorem eX6_image_11 : decode mX6_image.2.1 11 = .ok (.aload_n 0, 1) := by decide +kernel
theorem eX6_image_12 : decode mX6_image.2.1 12 = .ok (.getfield 44, 3) := by decide +kernel
theorem eX6_image_15 : decode mX6_image.2.1 15 = .ok (.aload_n 0, 1) := by decide +kernel
theorem eX6_image_16 : decode mX6_image.2.1 16 = .ok (.getfield 34, 3) := by decide +kernel
theorem eX6_image_19 : decode mX6_image.2.1 19 = .ok (.invokevirtual 221, 3) := by decide +kernel
theorem eX6_image_22 : decode mX6_image.2.1 22 = .ok (.aload_n 0, 1) := by decide +kernel
theorem eX6_image_23 : decode mX6_image.2.1 23 = .ok (.getfield 47, 3) := by decide +kernel
theorem eX6_image_26 : decode mX6_image.2.1 26 = .ok (.aload_n 0, 1) := by decide +kernel
theorem eX6_image_27 : decode mX6_image.2.1 27 = .ok (.getfield 38, 3) := by decide +kernel
theorem eX6_image_30 : decode mX6_image.2.1 30 = .ok (.invokevirtual 221, 3) := by decide +kernel
theorem eX6_image_33 : decode mX6_image.2.1 33 = .ok (.aload_n 0, 1) := by decide +kernel
theorem eX6_image_34 : decode mX6_image.2.1 34 = .ok (.getfield 50, 3) := by decide +kernel
theorem eX6_image_37 : decode mX6_image.2.1 37 = .ok (.aload_n 0, 1) := by decide +kernel
theorem eX6_image_38 : decode mX6_image.2.1 38 = .ok (.getfield 41, 3) := by decide +kernel
theorem eX6_image_41 : decode mX6_image.2.1 41 = .ok (.invokevirtual 221, 3) := by decide +kernel
theorem eX6_image_44 : decode mX6_image.2.1 44 = .ok (.aload_n 0, 1) := by decide +kernel
theorem eX6_image_45 : decode mX6_image.2.1 45 = .ok (.iconst 1, 1) := by decide +kernel
theorem eX6_image_46 : decode mX6_image.2.1 46 = .ok (.putfield 27, 3) := by decide +kernel
theorem eX6_image_49 : decode mX6_image.2.1 49 = .ok (.aload_n 0, 1) := by decide +kernel
theorem eX6_image_50 : decode mX6_image.2.1 50 = .ok (.getfield 16, 3) := by decide +kernel
theorem eX6_image_53 : decode mX6_image.2.1 53 = .ok (.getfield 78, 3) := by decide +kernel
theorem eX6_image_56 : decode mX6_image.2.1 56 = .ok (.ireturn, 1) := by decide +kernel
theorem c_X6_image (hO : OA h 16 (.inr (6, afs bi se))) (hN : WF F h 17 g (nI 9999)) (hT : DT h 27 (nI 2147483647)) (hI : DT h 37 (nI 9999)) {a1 a2 a3 b1 b2 b3 : Nat} {f1 f2 f3 e1 e2 e3 : Nat → Int32} (hS : RAt h 47 5 a1 f1) (hP : RAt h 49 10 a2 f2) (hB : RAt h 51 8 a3 f3) (hJS : RAt h 53 5 b1 e1) (hJP : RAt h 55 10 b2 e2) (hJB : RAt h 57 8 b3 e3) (h1 : a1 ≤ 5) (h2 : a2 ≤ 10) (h3 : a3 ≤ 8) (hd : 2 ≤ d) : Ct l G mX6_image yX6_image d 0 0 [.ref 16] h (fun r h' => r = some (.int (g 60)) ∧ OA h' 16 (.inr (6, afs 1 se)) ∧ WF F h' 17 g (nI 9999) ∧ DT h' 27 (nI 2147483647) ∧ WF F h' 37 g (nI 9999) ∧ (RAt h' 47 5 a1 f1 ∧ RAt h' 49 10 a2 f2 ∧ RAt h' 51 8 a3 f3) ∧ (∃ f', (∀ i, i < 3 * 5 → f' i = f1 i) ∧ RAt h' 53 5 a1 f') ∧ (∃ f', (∀ i, i < 3 * 10 → f' i = f2 i) ∧ RAt h' 55 10 a2 f') ∧ (∃ f', (∀ i, i < 3 * 8 → f' i = f3 i) ∧ RAt h' 57 8 a3 f') ∧ Same 16 43 h h') := by
  refine ct_of (lv := [some (.ref 16)]) (by decide +kernel) rfl (fun z => by cases z) (fun _ => rfl) (fun _ => Nat.le_of_ble_eq_true rfl) ?_
  refine aw_aload_n (pc' := 1) eX6_image_0 rfl rfl trivial ?_
  refine aw_Oget (pc' := 4) (ci := 6) (kf := 2) (N := 14) (.ref 37) hO eX6_image_1 rfl rfl rfl inX6 (by decide) q252 rfl ?_
  refine aw_aload_n (pc' := 5) eX6_image_4 rfl rfl trivial ?_
  refine aw_Oget (pc' := 8) (ci := 6) (kf := 0) (N := 14) (.ref 17) hO eX6_image_5 rfl rfl rfl inX6 (by decide) q250 rfl ?_
  refine aw_callv (pc' := 11) (nn := 1) (c_X5_becomes (d := d - 1) hN hI (by omega) (by omega) (by omega)) eX6_image_8 rfl ⟨q332, q335, q56⟩ q333 q334 ⟨rfl, by decide +kernel, by decide +kernel, by decide +kernel⟩ rfl hI.ob rfl ⟨by omega, by decide⟩ ⟨by omega, by omega⟩ rfl (Nat.le_of_ble_eq_true rfl) (fun v3 h4 hq5 => ?_)
  obtain ⟨rfl, hW1, hs2⟩ := hq5
  have hz6 := hs2.w (w2 := 16) (n2 := 43) (by omega) (by omega)
  have hF7 := hO.fr hs2 (by omega)
  have hF8 := hN.fr hs2 (by omega)
  have hF9 := hT.fr hs2 (by omega)
  have hF10 := hS.fr hs2 (by omega)
  have hF11 := hP.fr hs2 (by omega)
  have hF12 := hB.fr hs2 (by omega)
  have hF13 := hJS.fr hs2 (by omega)
  have hF14 := hJP.fr hs2 (by omega)
  have hF15 := hJB.fr hs2 (by omega)
  dsimp only [Option.toList, List.cons_append, List.nil_append]
  refine aw_aload_n (pc' := 12) eX6_image_11 rfl rfl trivial ?_
  refine aw_Oget (pc' := 15) (ci := 6) (kf := 7) (N := 14) (.ref 53) hF7 eX6_image_12 rfl rfl rfl inX6 (by decide) q257 rfl ?_
  refine aw_aload_n (pc' := 16) eX6_image_15 rfl rfl trivial ?_
  refine aw_Oget (pc' := 19) (ci := 6) (kf := 4) (N := 14) (.ref 47) hF7 eX6_image_16 rfl rfl rfl inX6 (by decide) q254 rfl ?_
  refine aw_callv (pc' := 22) (nn := 1) (c_X1_becomes (d := d - 1) hF13 hF10 (by omega) (by omega) (by omega) (by omega)) eX6_image_19 rfl ⟨q701, q704, q58⟩ q702 q703 ⟨rfl, by decide +kernel, by decide +kernel, by decide +kernel⟩ rfl hF13.ob rfl ⟨by omega, by decide⟩ ⟨by omega, by omega⟩ rfl (Nat.le_of_ble_eq_true rfl) (fun v20 h21 hq22 => ?_)
  obtain ⟨rfl, f18, hf19, hR16, hs17⟩ := hq22
  have hz23 := hs17.w (w2 := 16) (n2 := 43) (by omega) (by omega)
  have hT24 := hz6.tr hz23
  have hF25 := hF7.fr hs17 (by omega)
  have hF26 := hF8.fr hs17 (by omega)
  have hF27 := hF9.fr hs17 (by omega)
  have hF28 := hW1.fr hs17 (by omega)
  have hF29 := hF10.fr hs17 (by omega)
  have hF30 := hF11.fr hs17 (by omega)
  have hF31 := hF12.fr hs17 (by omega)
  have hF32 := hF14.fr hs17 (by omega)
  have hF33 := hF15.fr hs17 (by omega)
  dsimp only [Option.toList, List.cons_append, List.nil_append]
  refine aw_aload_n (pc' := 23) eX6_image_22 rfl rfl trivial ?_
  refine aw_Oget (pc' := 26) (ci := 6) (kf := 8) (N := 14) (.ref 55) hF25 eX6_image_23 rfl rfl rfl inX6 (by decide) q258 rfl ?_
  refine aw_aload_n (pc' := 27) eX6_image_26 rfl rfl trivial ?_
  refine aw_Oget (pc' := 30) (ci := 6) (kf := 5) (N := 14) (.ref 49) hF25 eX6_image_27 rfl rfl rfl inX6 (by decide) q255 rfl ?_
  refine aw_callv (pc' := 33) (nn := 1) (c_X1_becomes (d := d - 1) hF32 hF30 (by omega) (by omega) (by omega) (by omega)) eX6_image_30 rfl ⟨q701, q704, q58⟩ q702 q703 ⟨rfl, by decide +kernel, by decide +kernel, by decide +kernel⟩ rfl hF32.ob rfl ⟨by omega, by decide⟩ ⟨by omega, by omega⟩ rfl (Nat.le_of_ble_eq_true rfl) (fun v38 h39 hq40 => ?_)
  obtain ⟨rfl, f36, hf37, hR34, hs35⟩ := hq40
  have hz41 := hs35.w (w2 := 16) (n2 := 43) (by omega) (by omega)
  have hT42 := hT24.tr hz41
  have hF43 := hF25.fr hs35 (by omega)
  have hF44 := hF26.fr hs35 (by omega)
  have hF45 := hF27.fr hs35 (by omega)
  have hF46 := hF28.fr hs35 (by omega)
  have hF47 := hF29.fr hs35 (by omega)
  have hF48 := hF30.fr hs35 (by omega)
  have hF49 := hF31.fr hs35 (by omega)
  have hF50 := hR16.fr hs35 (by omega)
  have hF51 := hF33.fr hs35 (by omega)
  dsimp only [Option.toList, List.cons_append, List.nil_append]
  refine aw_aload_n (pc' := 34) eX6_image_33 rfl rfl trivial ?_
  refine aw_Oget (pc' := 37) (ci := 6) (kf := 9) (N := 14) (.ref 57) hF43 eX6_image_34 rfl rfl rfl inX6 (by decide) q259 rfl ?_
  refine aw_aload_n (pc' := 38) eX6_image_37 rfl rfl trivial ?_
  refine aw_Oget (pc' := 41) (ci := 6) (kf := 6) (N := 14) (.ref 51) hF43 eX6_image_38 rfl rfl rfl inX6 (by decide) q256 rfl ?_
  refine aw_callv (pc' := 44) (nn := 1) (c_X1_becomes (d := d - 1) hF51 hF49 (by omega) (by omega) (by omega) (by omega)) eX6_image_41 rfl ⟨q701, q704, q58⟩ q702 q703 ⟨rfl, by decide +kernel, by decide +kernel, by decide +kernel⟩ rfl hF51.ob rfl ⟨by omega, by decide⟩ ⟨by omega, by omega⟩ rfl (Nat.le_of_ble_eq_true rfl) (fun v56 h57 hq58 => ?_)
  obtain ⟨rfl, f54, hf55, hR52, hs53⟩ := hq58
  have hz59 := hs53.w (w2 := 16) (n2 := 43) (by omega) (by omega)
  have hT60 := hT42.tr hz59
  have hF61 := hF43.fr hs53 (by omega)
  have hF62 := hF44.fr hs53 (by omega)
  have hF63 := hF45.fr hs53 (by omega)
  have hF64 := hF46.fr hs53 (by omega)
  have hF65 := hF47.fr hs53 (by omega)
  have hF66 := hF48.fr hs53 (by omega)
  have hF67 := hF49.fr hs53 (by omega)
  have hF68 := hF50.fr hs53 (by omega)
  have hF69 := hR34.fr hs53 (by omega)
  dsimp only [Option.toList, List.cons_append, List.nil_append]
  refine aw_aload_n (pc' := 45) eX6_image_44 rfl rfl trivial ?_
  refine aw_iconst (pc' := 46) (v := 1) eX6_image_45 rfl (by decide) ?_
  refine aw_Oput (pc' := 49) (ci := 6) (kf := 3) (N := 14) (ty0 := tyX6) (afs 1 se) hF61 eX6_image_46 rfl rfl rfl inX6 tyX6_ok nmX6 (by decide) q253 rfl (by first | trivial | exact Or.inl rfl | exact Or.inr rfl | (simp [zfit]; done)) rfl (fun h72 hO70 hs71 => ?_)
  have hz73 := hs71.w (w2 := 16) (n2 := 43) (by omega) (by omega)
  have hT74 := hT60.tr hz73
  have hF75 := hF62.fr hs71 (by omega)
  have hF76 := hF63.fr hs71 (by omega)
  have hF77 := hF64.fr hs71 (by omega)
  have hF78 := hF65.fr hs71 (by omega)
  have hF79 := hF66.fr hs71 (by omega)
  have hF80 := hF67.fr hs71 (by omega)
  have hF81 := hF68.fr hs71 (by omega)
  have hF82 := hF69.fr hs71 (by omega)
  have hF83 := hR52.fr hs71 (by omega)
  refine aw_aload_n (pc' := 50) eX6_image_49 rfl rfl trivial ?_
  refine aw_Oget (pc' := 53) (ci := 6) (kf := 0) (N := 14) (.ref 17) hO70 eX6_image_50 rfl rfl rfl inX6 (by decide) q250 rfl ?_
  refine aw_Fint (pc' := 56) (kf := 10) hF75 eX6_image_53 rfl (by decide) q116 ?_
  refine aw_ret (v := some (.int _)) eX6_image_56 ⟨rfl, rfl⟩ (by omega) (by omega) rfl ?_
  exact ⟨rfl, hO70, hF75, hF76, hF77, ⟨hF78, hF79, hF80⟩, ⟨_, hf19, hF81⟩, ⟨_, hf37, hF82⟩, ⟨_, hf55, hF83⟩, hT74⟩
abbrev mX6_undo : MT := (RX6, cX6_undo, 1, (some .int), false)
theorem eX6_undo_0 : decode mX6_undo.2.1 0 = .ok (.aload_n 0, 1) := by decide +kernel
theorem eX6_undo_1 : decode mX6_undo.2.1 1 = .ok (.getfield 27, 3) := by decide +kernel
theorem eX6_undo_4 : decode mX6_undo.2.1 4 = .ok (.ifCond .ne 6, 3) := by decide +kernel
theorem eX6_undo_7 : decode mX6_undo.2.1 7 = .ok (.bipush (-3), 2) := by decide +kernel
theorem eX6_undo_9 : decode mX6_undo.2.1 9 = .ok (.ireturn, 1) := by decide +kernel
theorem eX6_undo_10 : decode mX6_undo.2.1 10 = .ok (.aload_n 0, 1) := by decide +kernel
theorem eX6_undo_11 : decode mX6_undo.2.1 11 = .ok (.getfield 16, 3) := by decide +kernel
theorem eX6_undo_14 : decode mX6_undo.2.1 14 = .ok (.aload_n 0, 1) := by decide +kernel
theorem eX6_undo_15 : decode mX6_undo.2.1 15 = .ok (.getfield 24, 3) := by decide +kernel
theorem eX6_undo_18 : decode mX6_undo.2.1 18 = .ok (.invokevirtual 118, 3) := by decide +kernel
theorem eX6_undo_21 : decode mX6_undo.2.1 21 = .ok (.aload_n 0, 1) := by decide +kernel
theorem eX6_undo_22 : decode mX6_undo.2.1 22 = .ok (.getfield 34, 3) := by decide +kernel
theorem eX6_undo_25 : decode mX6_undo.2.1 25 = .ok (.aload_n 0, 1) := by decide +kernel
theorem eX6_undo_26 : decode mX6_undo.2.1 26 = .ok (.getfield 44, 3) := by decide +kernel
theorem eX6_undo_29 : decode mX6_undo.2.1 29 = .ok (.invokevirtual 221, 3) := by decide +kernel
theorem eX6_undo_32 : decode mX6_undo.2.1 32 = .ok (.aload_n 0, 1) := by decide +kernel
theorem eX6_undo_33 : decode mX6_undo.2.1 33 = .ok (.getfield 38, 3) := by decide +kernel
theorem eX6_undo_36 : decode mX6_undo.2.1 36 = .ok (.aload_n 0, 1) := by decide +kernel
theorem eX6_undo_37 : decode mX6_undo.2.1 37 = .ok (.getfield 47, 3) := by decide +kernel
theorem eX6_undo_40 : decode mX6_undo.2.1 40 = .ok (.invokevirtual 221, 3) := by decide +kernel
theorem eX6_undo_43 : decode mX6_undo.2.1 43 = .ok (.aload_n 0, 1) := by decide +kernel
theorem eX6_undo_44 : decode mX6_undo.2.1 44 = .ok (.getfield 41, 3) := by decide +kernel
theorem eX6_undo_47 : decode mX6_undo.2.1 47 = .ok (.aload_n 0, 1) := by decide +kernel
theorem eX6_undo_48 : decode mX6_undo.2.1 48 = .ok (.getfield 50, 3) := by decide +kernel
theorem eX6_undo_51 : decode mX6_undo.2.1 51 = .ok (.invokevirtual 221, 3) := by decide +kernel
theorem eX6_undo_54 : decode mX6_undo.2.1 54 = .ok (.aload_n 0, 1) := by decide +kernel
theorem eX6_undo_55 : decode mX6_undo.2.1 55 = .ok (.getfield 16, 3) := by decide +kernel
theorem eX6_undo_58 : decode mX6_undo.2.1 58 = .ok (.getfield 78, 3) := by decide +kernel
theorem eX6_undo_61 : decode mX6_undo.2.1 61 = .ok (.ireturn, 1) := by decide +kernel
theorem c_X6_undo (hO : OA h 16 (.inr (6, afs bi se))) (hN : WF F h 17 g (nI 9999)) (hT : DT h 27 (nI 2147483647)) {gi : Nat → Int32} (hI : WF F h 37 gi (nI 9999)) {a1 a2 a3 b1 b2 b3 : Nat} {f1 f2 f3 e1 e2 e3 : Nat → Int32} (hS : RAt h 47 5 a1 f1) (hP : RAt h 49 10 a2 f2) (hB : RAt h 51 8 a3 f3) (hJS : RAt h 53 5 b1 e1) (hJP : RAt h 55 10 b2 e2) (hJB : RAt h 57 8 b3 e3) (h1 : b1 ≤ 5) (h2 : b2 ≤ 10) (h3 : b3 ≤ 8) (hbi : bi = 1) (hd : 2 ≤ d) : Ct l G mX6_undo yX6_undo d 0 0 [.ref 16] h (fun r h' => r = some (.int (gi 60)) ∧ OA h' 16 (.inr (6, afs bi se)) ∧ WF F h' 17 gi (nI 9999) ∧ DT h' 27 (nI 2147483647) ∧ WF F h' 37 gi (nI 9999) ∧ (RAt h' 53 5 b1 e1 ∧ RAt h' 55 10 b2 e2 ∧ RAt h' 57 8 b3 e3) ∧ (∃ f', (∀ i, i < 3 * 5 → f' i = e1 i) ∧ RAt h' 47 5 b1 f') ∧ (∃ f', (∀ i, i < 3 * 10 → f' i = e2 i) ∧ RAt h' 49 10 b2 f') ∧ (∃ f', (∀ i, i < 3 * 8 → f' i = e3 i) ∧ RAt h' 51 8 b3 f') ∧ Same 16 43 h h') := by
  refine ct_of (lv := [some (.ref 16)]) (by decide +kernel) rfl (fun z => by cases z) (fun _ => rfl) (fun _ => Nat.le_of_ble_eq_true rfl) ?_
  refine aw_aload_n (pc' := 1) eX6_undo_0 rfl rfl trivial ?_
  refine aw_Oget (pc' := 4) (ci := 6) (kf := 3) (N := 14) (.int bi) hO eX6_undo_1 rfl rfl rfl inX6 (by decide) q253 rfl ?_
  refine aw_if_ne (pc' := 7) (tgt := 10) eX6_undo_4 rfl (by decide) (fun c_4 => ?_) (fun c_4 => ?_)
  · refine aw_aload_n (pc' := 11) eX6_undo_10 rfl rfl trivial ?_
    refine aw_Oget (pc' := 14) (ci := 6) (kf := 0) (N := 14) (.ref 17) hO eX6_undo_11 rfl rfl rfl inX6 (by decide) q250 rfl ?_
    refine aw_aload_n (pc' := 15) eX6_undo_14 rfl rfl trivial ?_
    refine aw_Oget (pc' := 18) (ci := 6) (kf := 2) (N := 14) (.ref 37) hO eX6_undo_15 rfl rfl rfl inX6 (by decide) q252 rfl ?_
    refine aw_callv (pc' := 21) (nn := 1) (c_X5_becomes (d := d - 1) hI hN.dt (by omega) (by omega) (by omega)) eX6_undo_18 rfl ⟨q332, q335, q56⟩ q333 q334 ⟨rfl, by decide +kernel, by decide +kernel, by decide +kernel⟩ rfl hN.ob rfl ⟨by omega, by decide⟩ ⟨by omega, by omega⟩ rfl (Nat.le_of_ble_eq_true rfl) (fun v3 h4 hq5 => ?_)
    obtain ⟨rfl, hW1, hs2⟩ := hq5
    have hz6 := hs2.w (w2 := 16) (n2 := 43) (by omega) (by omega)
    have hF7 := hO.fr hs2 (by omega)
    have hF8 := hT.fr hs2 (by omega)
    have hF9 := hI.fr hs2 (by omega)
    have hF10 := hS.fr hs2 (by omega)
    have hF11 := hP.fr hs2 (by omega)
    have hF12 := hB.fr hs2 (by omega)
    have hF13 := hJS.fr hs2 (by omega)
    have hF14 := hJP.fr hs2 (by omega)
    have hF15 := hJB.fr hs2 (by omega)
    dsimp only [Option.toList, List.cons_append, List.nil_append]
    refine aw_aload_n (pc' := 22) eX6_undo_21 rfl rfl trivial ?_
    refine aw_Oget (pc' := 25) (ci := 6) (kf := 4) (N := 14) (.ref 47) hF7 eX6_undo_22 rfl rfl rfl inX6 (by decide) q254 rfl ?_
    refine aw_aload_n (pc' := 26) eX6_undo_25 rfl rfl trivial ?_
    refine aw_Oget (pc' := 29) (ci := 6) (kf := 7) (N := 14) (.ref 53) hF7 eX6_undo_26 rfl rfl rfl inX6 (by decide) q257 rfl ?_
    refine aw_callv (pc' := 32) (nn := 1) (c_X1_becomes (d := d - 1) hF10 hF13 (by omega) (by omega) (by omega) (by omega)) eX6_undo_29 rfl ⟨q701, q704, q58⟩ q702 q703 ⟨rfl, by decide +kernel, by decide +kernel, by decide +kernel⟩ rfl hF10.ob rfl ⟨by omega, by decide⟩ ⟨by omega, by omega⟩ rfl (Nat.le_of_ble_eq_true rfl) (fun v20 h21 hq22 => ?_)
    obtain ⟨rfl, f18, hf19, hR16, hs17⟩ := hq22
    have hz23 := hs17.w (w2 := 16) (n2 := 43) (by omega) (by omega)
    have hT24 := hz6.tr hz23
    have hF25 := hF7.fr hs17 (by omega)
    have hF26 := hW1.fr hs17 (by omega)
    have hF27 := hF8.fr hs17 (by omega)
    have hF28 := hF9.fr hs17 (by omega)
    have hF29 := hF11.fr hs17 (by omega)
    have hF30 := hF12.fr hs17 (by omega)
    have hF31 := hF13.fr hs17 (by omega)
    have hF32 := hF14.fr hs17 (by omega)
    have hF33 := hF15.fr hs17 (by omega)
    dsimp only [Option.toList, List.cons_append, List.nil_append]
    refine aw_aload_n (pc' := 33) eX6_undo_32 rfl rfl trivial ?_
    refine aw_Oget (pc' := 36) (ci := 6) (kf := 5) (N := 14) (.ref 49) hF25 eX6_undo_33 rfl rfl rfl inX6 (by decide) q255 rfl ?_
    refine aw_aload_n (pc' := 37) eX6_undo_36 rfl rfl trivial ?_
    refine aw_Oget (pc' := 40) (ci := 6) (kf := 8) (N := 14) (.ref 55) hF25 eX6_undo_37 rfl rfl rfl inX6 (by decide) q258 rfl ?_
    refine aw_callv (pc' := 43) (nn := 1) (c_X1_becomes (d := d - 1) hF29 hF32 (by omega) (by omega) (by omega) (by omega)) eX6_undo_40 rfl ⟨q701, q704, q58⟩ q702 q703 ⟨rfl, by decide +kernel, by decide +kernel, by decide +kernel⟩ rfl hF29.ob rfl ⟨by omega, by decide⟩ ⟨by omega, by omega⟩ rfl (Nat.le_of_ble_eq_true rfl) (fun v38 h39 hq40 => ?_)
    obtain ⟨rfl, f36, hf37, hR34, hs35⟩ := hq40
    have hz41 := hs35.w (w2 := 16) (n2 := 43) (by omega) (by omega)
    have hT42 := hT24.tr hz41
    have hF43 := hF25.fr hs35 (by omega)
    have hF44 := hF26.fr hs35 (by omega)
    have hF45 := hF27.fr hs35 (by omega)
    have hF46 := hF28.fr hs35 (by omega)
    have hF47 := hR16.fr hs35 (by omega)
    have hF48 := hF30.fr hs35 (by omega)
    have hF49 := hF31.fr hs35 (by omega)
    have hF50 := hF32.fr hs35 (by omega)
    have hF51 := hF33.fr hs35 (by omega)
    dsimp only [Option.toList, List.cons_append, List.nil_append]
    refine aw_aload_n (pc' := 44) eX6_undo_43 rfl rfl trivial ?_
    refine aw_Oget (pc' := 47) (ci := 6) (kf := 6) (N := 14) (.ref 51) hF43 eX6_undo_44 rfl rfl rfl inX6 (by decide) q256 rfl ?_
    refine aw_aload_n (pc' := 48) eX6_undo_47 rfl rfl trivial ?_
    refine aw_Oget (pc' := 51) (ci := 6) (kf := 9) (N := 14) (.ref 57) hF43 eX6_undo_48 rfl rfl rfl inX6 (by decide) q259 rfl ?_
    refine aw_callv (pc' := 54) (nn := 1) (c_X1_becomes (d := d - 1) hF48 hF51 (by omega) (by omega) (by omega) (by omega)) eX6_undo_51 rfl ⟨q701, q704, q58⟩ q702 q703 ⟨rfl, by decide +kernel, by decide +kernel, by decide +kernel⟩ rfl hF48.ob rfl ⟨by omega, by decide⟩ ⟨by omega, by omega⟩ rfl (Nat.le_of_ble_eq_true rfl) (fun v56 h57 hq58 => ?_)
    obtain ⟨rfl, f54, hf55, hR52, hs53⟩ := hq58
    have hz59 := hs53.w (w2 := 16) (n2 := 43) (by omega) (by omega)
    have hT60 := hT42.tr hz59
    have hF61 := hF43.fr hs53 (by omega)
    have hF62 := hF44.fr hs53 (by omega)
    have hF63 := hF45.fr hs53 (by omega)
    have hF64 := hF46.fr hs53 (by omega)
    have hF65 := hF47.fr hs53 (by omega)
    have hF66 := hR34.fr hs53 (by omega)
    have hF67 := hF49.fr hs53 (by omega)
    have hF68 := hF50.fr hs53 (by omega)
    have hF69 := hF51.fr hs53 (by omega)
    dsimp only [Option.toList, List.cons_append, List.nil_append]
    refine aw_aload_n (pc' := 55) eX6_undo_54 rfl rfl trivial ?_
    refine aw_Oget (pc' := 58) (ci := 6) (kf := 0) (N := 14) (.ref 17) hF61 eX6_undo_55 rfl rfl rfl inX6 (by decide) q250 rfl ?_
    refine aw_Fint (pc' := 61) (kf := 10) hF62 eX6_undo_58 rfl (by decide) q116 ?_
    refine aw_ret (v := some (.int _)) eX6_undo_61 ⟨rfl, rfl⟩ (by omega) (by omega) rfl ?_
    exact ⟨rfl, hF61, hF62, hF63, hF64, ⟨hF67, hF68, hF69⟩, ⟨_, hf19, hF65⟩, ⟨_, hf37, hF66⟩, ⟨_, hf55, hR52⟩, hT60⟩
  · exact absurd c_4 (by rw [hbi]; decide)
theorem f_X6_undo (hO : OA h 16 (.inr (6, afs 0 se))) (hd : 0 ≤ d) : Ct l G mX6_undo yX6_undo d 0 0 [.ref 16] h (fun r h' => r = some (.int (-3)) ∧ h' = h) := by
  refine ct_of (lv := [some (.ref 16)]) (by decide +kernel) rfl (fun z => by cases z) (fun _ => rfl) (fun _ => Nat.le_of_ble_eq_true rfl) ?_
  refine aw_aload_n (pc' := 1) eX6_undo_0 rfl rfl trivial ?_
  refine aw_Oget (pc' := 4) (ci := 6) (kf := 3) (N := 14) (.int 0) hO eX6_undo_1 rfl rfl rfl inX6 (by decide) q253 rfl ?_
  refine aw_if_ne (pc' := 7) (tgt := 10) eX6_undo_4 rfl (by decide) (fun c_4 => ?_) (fun c_4 => ?_)
  · exact absurd rfl c_4
  · refine aw_bipush (pc' := 9) (v := -3) eX6_undo_7 rfl (by decide) ?_
    refine aw_ret (v := some (.int _)) eX6_undo_9 ⟨rfl, rfl⟩ (by omega) (by omega) rfl ?_
    exact ⟨rfl, rfl⟩
end C20
