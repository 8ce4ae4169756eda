/-! the class AmberGrains: seen, plans, fractions -/
section C15
variable {F : FT} {l : Launch} {G : GT} {d m t a : Nat} {g : Nat → Int32} {f : Nat → Int32} {h : Hp} {Q : Option Value → Hp → Prop} {bi se : Int32}
/-- rows that are seen, as the row g has them -/
def SeR (f g : Nat → Int32) (a : Nat) : Prop := ∀ r, r < a → f (3 * r) = g (70 + 3 * r) ∧ f (3 * r + 1) = g (71 + 3 * r) ∧ f (3 * r + 2) = g (72 + 3 * r)
def gS2 (g : Nat → Int32) (m a : Nat) : Prop := g 69 = nI a ∧ a ≤ 5 ∧ ∀ r, r < a → (∃ b, b < m ∧ g (70 + 3 * r) = nI b) ∧ ∃ y, y ≤ 12 ∧ g (71 + 3 * r) = nI y
theorem gS2.of {g g' : Nat → Int32} (hS : gS2 g m a) (e : ∀ j, 69 ≤ j → j < 85 → g' j = g j) : gS2 g' m a := by
  obtain ⟨h1, h2, h3⟩ := hS
  refine ⟨(e 69 (by omega) (by omega)).trans h1, h2, fun r hr => ?_⟩
  rw [e _ (by omega) (by omega), e _ (by omega) (by omega)]
  exact h3 r hr
theorem SeR.of {g g' : Nat → Int32} (hS : SeR f g a) (ha : a ≤ 5) (e : ∀ j, 69 ≤ j → j < 85 → g' j = g j) : SeR f g' a := fun r hr => by
  rw [e _ (by omega) (by omega), e _ (by omega) (by omega), e _ (by omega) (by omega)]
  exact hS r hr
theorem sSeen_mono {g : Nat → Int32} {y : Int32} {k : Nat} (e : sSeen g y k = false) : ∀ j, sSeen g y (k + j) = false
  | 0 => e
  | j + 1 => by
    rw [← Nat.add_assoc, sSeen, sSeen_mono e j]
    rfl
theorem sSeen_t {g : Nat → Int32} {y : Int32} : ∀ k, (∀ r, r < k → ¬ g (71 + 3 * r) = y) → sSeen g y k = true
  | 0, _ => rfl
  | k + 1, hz => by
    rw [sSeen, sSeen_t k (fun r hr => hz r (by omega)), decide_eq_true (hz k (by omega))]
    rfl
theorem sAll_t (hm6 : m ≤ 6) : ∀ (k q t : Nat) (g : Nat → Int32), a ≤ 5 → q + k ≤ 100 → (∀ r, r < a → ∃ y, y < q ∧ g (71 + 3 * r) = nI y) → sAll F m a k q t g = true
  | 0, _, _, _, _, _, _ => rfl
  | k + 1, q, t, g, ha, hq, hz => by
    rw [sAll, if_pos (sSeen_t a fun r hr e => by
      obtain ⟨y, hy, ey⟩ := hz r hr
      rw [ey] at e
      have := (nI_eq (by omega) (by omega)).mp e
      omega)]
    refine sAll_t hm6 k (q + 1) (t + 1) _ ha (by omega) fun r hr => ?_
    rw [sDay_hi hm6 (by omega) (by omega) (by omega)]
    obtain ⟨y, hy, ey⟩ := hz r hr
    exact ⟨y, by omega, ey⟩
theorem mx_b : ∀ L ∈ List.range 14, ∀ v ∈ List.range 13, (if nI L - 1 < nI v then nI v else nI L - 1) = nI (max L (v + 1)) - 1 := by decide +kernel
theorem mx_c : ∀ q ∈ List.range 15, ∀ L ∈ List.range 14, (nI q > nI L - 1 ↔ L ≤ q) := by decide +kernel

abbrev mX6_trialIsAsSeenOn : MT := (RX6, cX6_trialIsAsSeenOn, 4, (some .boolean), false)
theorem eX6_trialIsAsSeenOn_0 : decode mX6_trialIsAsSeenOn.2.1 0 = .ok (.iconst 0, 1) := by decide +kernel
theorem eX6_trialIsAsSeenOn_1 : decode mX6_trialIsAsSeenOn.2.1 1 = .ok (.istore_n 2, 1) := by decide +kernel
theorem eX6_trialIsAsSeenOn_2 : decode mX6_trialIsAsSeenOn.2.1 2 = .ok (.iload_n 2, 1) := by decide +kernel
theorem eX6_trialIsAsSeenOn_3 : decode mX6_trialIsAsSeenOn.2.1 3 = .ok (.aload_n 0, 1) := by decide +kernel
theorem eX6_trialIsAsSeenOn_4 : decode mX6_trialIsAsSeenOn.2.1 4 = .ok (.getfield 34, 3) := by decide +kernel
theorem eX6_trialIsAsSeenOn_7 : decode mX6_trialIsAsSeenOn.2.1 7 = .ok (.getfield 201, 3) := by decide +kernel
theorem eX6_trialIsAsSeenOn_10 : decode mX6_trialIsAsSeenOn.2.1 10 = .ok (.if_icmp .ge 66, 3) := by decide +kernel
theorem eX6_trialIsAsSeenOn_13 : decode mX6_trialIsAsSeenOn.2.1 13 = .ok (.aload_n 0, 1) := by decide +kernel
theorem eX6_trialIsAsSeenOn_14 : decode mX6_trialIsAsSeenOn.2.1 14 = .ok (.getfield 34, 3) := by decide +kernel
theorem eX6_trialIsAsSeenOn_17 : decode mX6_trialIsAsSeenOn.2.1 17 = .ok (.iload_n 2, 1) := by decide +kernel
theorem eX6_trialIsAsSeenOn_18 : decode mX6_trialIsAsSeenOn.2.1 18 = .ok (.iconst 0, 1) := by decide +kernel
theorem eX6_trialIsAsSeenOn_19 : decode mX6_trialIsAsSeenOn.2.1 19 = .ok (.invokevirtual 204, 3) := by decide +kernel
theorem eX6_trialIsAsSeenOn_22 : decode mX6_trialIsAsSeenOn.2.1 22 = .ok (.istore_n 3, 1) := by decide +kernel
theorem eX6_trialIsAsSeenOn_23 : decode mX6_trialIsAsSeenOn.2.1 23 = .ok (.aload_n 0, 1) := by decide +kernel
theorem eX6_trialIsAsSeenOn_24 : decode mX6_trialIsAsSeenOn.2.1 24 = .ok (.getfield 34, 3) := by decide +kernel
theorem eX6_trialIsAsSeenOn_27 : decode mX6_trialIsAsSeenOn.2.1 27 = .ok (.iload_n 2, 1) := by decide +kernel
theorem eX6_trialIsAsSeenOn_28 : decode mX6_trialIsAsSeenOn.2.1 28 = .ok (.iconst 1, 1) := by decide +kernel
theorem eX6_trialIsAsSeenOn_29 : decode mX6_trialIsAsSeenOn.2.1 29 = .ok (.invokevirtual 204, 3) := by decide +kernel
theorem eX6_trialIsAsSeenOn_32 : decode mX6_trialIsAsSeenOn.2.1 32 = .ok (.iload_n 1, 1) := by decide +kernel
theorem eX6_trialIsAsSeenOn_33 : decode mX6_trialIsAsSeenOn.2.1 33 = .ok (.if_icmp .ne 37, 3) := by decide +kernel
theorem eX6_trialIsAsSeenOn_36 : decode mX6_trialIsAsSeenOn.2.1 36 = .ok (.aload_n 0, 1) := by decide +kernel
theorem eX6_trialIsAsSeenOn_37 : decode mX6_trialIsAsSeenOn.2.1 37 = .ok (.getfield 21, 3) := by decide +kernel
theorem eX6_trialIsAsSeenOn_40 : decode mX6_trialIsAsSeenOn.2.1 40 = .ok (.iload_n 3, 1) := by decide +kernel
theorem eX6_trialIsAsSeenOn_41 : decode mX6_trialIsAsSeenOn.2.1 41 = .ok (.invokevirtual 85, 3) := by decide +kernel
theorem eX6_trialIsAsSeenOn_44 : decode mX6_trialIsAsSeenOn.2.1 44 = .ok (.ifCond .eq 26, 3) := by decide +kernel
theorem eX6_trialIsAsSeenOn_47 : decode mX6_trialIsAsSeenOn.2.1 47 = .ok (.aload_n 0, 1) := by decide +kernel
theorem eX6_trialIsAsSeenOn_48 : decode mX6_trialIsAsSeenOn.2.1 48 = .ok (.getfield 21, 3) := by decide +kernel
theorem eX6_trialIsAsSeenOn_51 : decode mX6_trialIsAsSeenOn.2.1 51 = .ok (.getfield 99, 3) := by decide +kernel
theorem eX6_trialIsAsSeenOn_54 : decode mX6_trialIsAsSeenOn.2.1 54 = .ok (.iload_n 3, 1) := by decide +kernel
theorem eX6_trialIsAsSeenOn_55 : decode mX6_trialIsAsSeenOn.2.1 55 = .ok (.iaload, 1) := by decide +kernel
theorem eX6_trialIsAsSeenOn_56 : decode mX6_trialIsAsSeenOn.2.1 56 = .ok (.aload_n 0, 1) := by decide +kernel
theorem eX6_trialIsAsSeenOn_57 : decode mX6_trialIsAsSeenOn.2.1 57 = .ok (.getfield 34, 3) := by decide +kernel
theorem eX6_trialIsAsSeenOn_60 : decode mX6_trialIsAsSeenOn.2.1 60 = .ok (.iload_n 2, 1) := by decide +kernel
theorem eX6_trialIsAsSeenOn_61 : decode mX6_trialIsAsSeenOn.2.1 61 = .ok (.iconst 2, 1) := by decide +kernel
theorem eX6_trialIsAsSeenOn_62 : decode mX6_trialIsAsSeenOn.2.1 62 = .ok (.invokevirtual 204, 3) := by decide +kernel
theorem eX6_trialIsAsSeenOn_65 : decode mX6_trialIsAsSeenOn.2.1 65 = .ok (.if_icmp .eq 5, 3) := by decide +kernel
theorem eX6_trialIsAsSeenOn_68 : decode mX6_trialIsAsSeenOn.2.1 68 = .ok (.iconst 0, 1) := by decide +kernel
theorem eX6_trialIsAsSeenOn_69 : decode mX6_trialIsAsSeenOn.2.1 69 = .ok (.ireturn, 1) := by decide +kernel
theorem eX6_trialIsAsSeenOn_70 : decode mX6_trialIsAsSeenOn.2.1 70 = .ok (.iinc 2 1, 3) := by decide +kernel
theorem eX6_trialIsAsSeenOn_73 : decode mX6_trialIsAsSeenOn.2.1 73 = .ok (.goto (-71), 3) := by decide +kernel
theorem eX6_trialIsAsSeenOn_76 : decode mX6_trialIsAsSeenOn.2.1 76 = .ok (.iconst 1, 1) := by decide +kernel
theorem eX6_trialIsAsSeenOn_77 : decode mX6_trialIsAsSeenOn.2.1 77 = .ok (.ireturn, 1) := by decide +kernel
theorem lp_X6_trialIsAsSeenOn (hO : OA h 16 (.inr (6, afs bi se))) (hT : WF F h 27 g (nI 2147483647)) (hm : g 60 = nI m) (hm6 : m ≤ 6) (hS : RAt h 47 5 a f) (hSe : SeR f g a) (hg2 : gS2 g m a) {y : Nat} (hd : 1 ≤ d) (hQ : Q (some (.int (zb (sSeen g (nI y) a)))) h) : ∀ (j q : Nat) (y2 : Int32) (o3 : Option Value), j = a - q → q ≤ a → y2 = nI q → sSeen g (nI y) q = true → AW l G mX6_trialIsAsSeenOn d 0 0 Q 0 0 h [some (.ref 16), some (.int (nI y)), some (.int y2), o3] [] 2 := by
  have ha5 := hg2.2.1
  intro j
  induction j using Nat.strongRecOn with
  | _ j ih =>
    intro q y2 o3 hj hq hy hx
    subst hy
    refine aw_iload_n (pc' := 3) eX6_trialIsAsSeenOn_2 rfl rfl ?_
    refine aw_aload_n (pc' := 4) eX6_trialIsAsSeenOn_3 rfl rfl trivial ?_
    refine aw_Oget (pc' := 7) (ci := 6) (kf := 4) (N := 14) (.ref 47) hO eX6_trialIsAsSeenOn_4 rfl rfl rfl inX6 (by decide) q254 rfl ?_
    refine aw_OgetN (pc' := 10) (ci := 1) (kf := 2) (N := 3) (.int (nI a)) (hS).1 eX6_trialIsAsSeenOn_7 rfl rfl rfl inX1 (by decide) rfl (by decide) rfl ?_
    refine aw_icmp_ge (pc' := 13) (tgt := 76) eX6_trialIsAsSeenOn_10 rfl (by decide) (fun c_10 => ?_) (fun c_10 => ?_)
    · have c9 := ge_nI (by omega) (by omega) c_10
      obtain rfl : q = a := by omega
      refine aw_iconst (pc' := 77) (v := 1) eX6_trialIsAsSeenOn_76 rfl (by decide) ?_
      refine aw_ret (v := some (.int _)) eX6_trialIsAsSeenOn_77 ⟨rfl, rfl⟩ (by omega) (by omega) rfl ?_
      rw [hx] at hQ
      exact hQ
    · have c9 := nge_nI (by omega) (by omega) c_10
      have hse := hSe q c9
      obtain ⟨b, hb, eb⟩ := (hg2.2.2 q c9).1
      have clb : (nI b).toNatClampNeg = b := nI_clamp (by omega)
      refine aw_aload_n (pc' := 14) eX6_trialIsAsSeenOn_13 rfl rfl trivial ?_
      refine aw_Oget (pc' := 17) (ci := 6) (kf := 4) (N := 14) (.ref 47) hO eX6_trialIsAsSeenOn_14 rfl rfl rfl inX6 (by decide) q254 rfl ?_
      refine aw_iload_n (pc' := 18) eX6_trialIsAsSeenOn_17 rfl rfl ?_
      refine aw_iconst (pc' := 19) (v := 0) eX6_trialIsAsSeenOn_18 rfl (by decide) ?_
      refine aw_callv (pc' := 22) (nn := 2) (c_X1_cell (d := d - 1) hS (r := q) (c := 0) (by omega) (by omega) (by omega)) eX6_trialIsAsSeenOn_19 rfl ⟨q641, q644, q58⟩ q642 q643 ⟨rfl, by decide +kernel, by decide +kernel, by decide +kernel⟩ rfl hS.ob rfl ⟨by omega, by decide⟩ ⟨by omega, by omega⟩ rfl (Nat.le_of_ble_eq_true rfl) (fun v1 h2 hq3 => ?_)
      obtain ⟨rfl, rfl⟩ := hq3
      rw [show f (3 * q + 0) = nI b from hse.1.trans eb]
      dsimp only [Option.toList, List.cons_append, List.nil_append]
      refine aw_istore_n (pc' := 23) eX6_trialIsAsSeenOn_22 rfl (by decide) ?_
      dsimp only [zst, zst2, zcut]
      refine aw_aload_n (pc' := 24) eX6_trialIsAsSeenOn_23 rfl rfl trivial ?_
      refine aw_Oget (pc' := 27) (ci := 6) (kf := 4) (N := 14) (.ref 47) hO eX6_trialIsAsSeenOn_24 rfl rfl rfl inX6 (by decide) q254 rfl ?_
      refine aw_iload_n (pc' := 28) eX6_trialIsAsSeenOn_27 rfl rfl ?_
      refine aw_iconst (pc' := 29) (v := 1) eX6_trialIsAsSeenOn_28 rfl (by decide) ?_
      refine aw_callv (pc' := 32) (nn := 2) (c_X1_cell (d := d - 1) hS (r := q) (c := 1) (by omega) (by omega) (by omega)) eX6_trialIsAsSeenOn_29 rfl ⟨q641, q644, q58⟩ q642 q643 ⟨rfl, by decide +kernel, by decide +kernel, by decide +kernel⟩ rfl hS.ob rfl ⟨by omega, by decide⟩ ⟨by omega, by omega⟩ rfl (Nat.le_of_ble_eq_true rfl) (fun v4 h5 hq6 => ?_)
      obtain ⟨rfl, rfl⟩ := hq6
      rw [hse.2.1]
      dsimp only [Option.toList, List.cons_append, List.nil_append]
      refine aw_iload_n (pc' := 33) eX6_trialIsAsSeenOn_32 rfl rfl ?_
      refine aw_icmp_ne (pc' := 36) (tgt := 70) eX6_trialIsAsSeenOn_33 rfl (by decide) (fun c_33 => ?_) (fun c_33 => ?_)
      · refine aw_iinc (pc' := 73) eX6_trialIsAsSeenOn_70 rfl rfl rfl (by decide) ?_
        dsimp only [zst, zst2, zcut]
        refine aw_goto eX6_trialIsAsSeenOn_73 (by decide) (tgt := 2) ?_
        exact ih (a - (q + 1)) (by omega) (q + 1) _ _ rfl (by omega) (nI_inc q) (by rw [sSeen, hx]; simp [c_33])
      · refine aw_aload_n (pc' := 37) eX6_trialIsAsSeenOn_36 rfl rfl trivial ?_
        refine aw_Oget (pc' := 40) (ci := 6) (kf := 1) (N := 14) (.ref 27) hO eX6_trialIsAsSeenOn_37 rfl rfl rfl inX6 (by decide) q251 rfl ?_
        refine aw_iload_n (pc' := 41) eX6_trialIsAsSeenOn_40 rfl rfl ?_
        refine aw_callv (pc' := 44) (nn := 1) (c_X5_has (d := d - 1) hT hm hm6 _ (by omega)) eX6_trialIsAsSeenOn_41 rfl ⟨q305, q308, q56⟩ q306 q307 ⟨rfl, by decide +kernel, by decide +kernel, by decide +kernel⟩ rfl hT.ob rfl ⟨by omega, by decide⟩ ⟨by omega, by omega⟩ rfl (Nat.le_of_ble_eq_true rfl) (fun v7 h8 hq9 => ?_)
        obtain ⟨rfl, rfl⟩ := hq9
        dsimp only [Option.toList, List.cons_append, List.nil_append]
        refine aw_if_eq (pc' := 47) (tgt := 70) eX6_trialIsAsSeenOn_44 rfl (by decide) (fun c_44 => ?_) (fun c_44 => ?_)
        · refine aw_iinc (pc' := 73) eX6_trialIsAsSeenOn_70 rfl rfl rfl (by decide) ?_
          dsimp only [zst, zst2, zcut]
          refine aw_goto eX6_trialIsAsSeenOn_73 (by decide) (tgt := 2) ?_
          exact absurd (zb_eq0.mp c_44) (by rw [(bIn_one hm6).mpr ⟨b, hb, rfl⟩]; decide)
        · refine aw_aload_n (pc' := 48) eX6_trialIsAsSeenOn_47 rfl rfl trivial ?_
          refine aw_Oget (pc' := 51) (ci := 6) (kf := 1) (N := 14) (.ref 27) hO eX6_trialIsAsSeenOn_48 rfl rfl rfl inX6 (by decide) q251 rfl ?_
          refine aw_Fref (pc' := 54) (kf := 4) hT eX6_trialIsAsSeenOn_51 rfl (by decide) q105 ?_
          refine aw_iload_n (pc' := 55) eX6_trialIsAsSeenOn_54 rfl rfl ?_
          refine aw_Fld (pc' := 56) 4 3 b hT eX6_trialIsAsSeenOn_55 rfl (by decide) rfl (show vp_in _ 6 from vp_in_nI (by omega) (by omega)) (nI_clamp (by omega)) ?_
          refine aw_aload_n (pc' := 57) eX6_trialIsAsSeenOn_56 rfl rfl trivial ?_
          refine aw_Oget (pc' := 60) (ci := 6) (kf := 4) (N := 14) (.ref 47) hO eX6_trialIsAsSeenOn_57 rfl rfl rfl inX6 (by decide) q254 rfl ?_
          refine aw_iload_n (pc' := 61) eX6_trialIsAsSeenOn_60 rfl rfl ?_
          refine aw_iconst (pc' := 62) (v := 2) eX6_trialIsAsSeenOn_61 rfl (by decide) ?_
          refine aw_callv (pc' := 65) (nn := 2) (c_X1_cell (d := d - 1) hS (r := q) (c := 2) (by omega) (by omega) (by omega)) eX6_trialIsAsSeenOn_62 rfl ⟨q641, q644, q58⟩ q642 q643 ⟨rfl, by decide +kernel, by decide +kernel, by decide +kernel⟩ rfl hS.ob rfl ⟨by omega, by decide⟩ ⟨by omega, by omega⟩ rfl (Nat.le_of_ble_eq_true rfl) (fun v10 h11 hq12 => ?_)
          obtain ⟨rfl, rfl⟩ := hq12
          rw [hse.2.2]
          dsimp only [Option.toList, List.cons_append, List.nil_append]
          refine aw_icmp_eq (pc' := 68) (tgt := 70) eX6_trialIsAsSeenOn_65 rfl (by decide) (fun c_65 => ?_) (fun c_65 => ?_)
          · refine aw_iinc (pc' := 73) eX6_trialIsAsSeenOn_70 rfl rfl rfl (by decide) ?_
            dsimp only [zst, zst2, zcut]
            refine aw_goto eX6_trialIsAsSeenOn_73 (by decide) (tgt := 2) ?_
            exact ih (a - (q + 1)) (by omega) (q + 1) _ _ rfl (by omega) (nI_inc q) (by rw [sSeen, hx]; simp [eb, clb, c_65])
          · refine aw_iconst (pc' := 69) (v := 0) eX6_trialIsAsSeenOn_68 rfl (by decide) ?_
            refine aw_ret (v := some (.int _)) eX6_trialIsAsSeenOn_69 ⟨rfl, rfl⟩ (by omega) (by omega) rfl ?_
            have e1 : sSeen g (nI y) (q + 1) = false := by rw [sSeen, hx]; simp [c_33, eb, clb, c_65]
            have e2 := sSeen_mono e1 (a - (q + 1))
            rw [show q + 1 + (a - (q + 1)) = a by omega] at e2
            rw [e2] at hQ
            exact hQ
theorem c_X6_trialIsAsSeenOn (hO : OA h 16 (.inr (6, afs bi se))) (hT : WF F h 27 g (nI 2147483647)) (hm : g 60 = nI m) (hm6 : m ≤ 6) (hS : RAt h 47 5 a f) (hSe : SeR f g a) (hg2 : gS2 g m a) {y : Nat} (hd : 1 ≤ d) : Ct l G mX6_trialIsAsSeenOn yX6_trialIsAsSeenOn d 0 0 [.ref 16, .int (nI y)] h (fun r h' => r = some (.int (zb (sSeen g (nI y) a))) ∧ h' = h) := by
  refine ct_of (lv := [some (.ref 16), some (.int (nI y)), none, none]) (by decide +kernel) rfl (fun z => by cases z) (fun _ => rfl) (fun _ => Nat.le_of_ble_eq_true rfl) ?_
  refine aw_iconst (pc' := 1) (v := 0) eX6_trialIsAsSeenOn_0 rfl (by decide) ?_
  refine aw_istore_n (pc' := 2) eX6_trialIsAsSeenOn_1 rfl (by decide) ?_
  dsimp only [zst, zst2, zcut]
  exact lp_X6_trialIsAsSeenOn hO hT hm hm6 hS hSe hg2 hd ⟨rfl, rfl⟩ a 0 _ _ (by omega) (by omega) rfl rfl
abbrev mX6_trialIsAsSeen : MT := (RX6, cX6_trialIsAsSeen, 3, (some .boolean), false)
theorem eX6_trialIsAsSeen_0 : decode mX6_trialIsAsSeen.2.1 0 = .ok (.iconst (-1), 1) := by decide +kernel
theorem eX6_trialIsAsSeen_1 : decode mX6_trialIsAsSeen.2.1 1 = .ok (.istore_n 1, 1) := by decide +kernel
theorem eX6_trialIsAsSeen_2 : decode mX6_trialIsAsSeen.2.1 2 = .ok (.iconst 0, 1) := by decide +kernel
theorem eX6_trialIsAsSeen_3 : decode mX6_trialIsAsSeen.2.1 3 = .ok (.istore_n 2, 1) := by decide +kernel
theorem eX6_trialIsAsSeen_4 : decode mX6_trialIsAsSeen.2.1 4 = .ok (.iload_n 2, 1) := by decide +kernel
theorem eX6_trialIsAsSeen_5 : decode mX6_trialIsAsSeen.2.1 5 = .ok (.aload_n 0, 1) := by decide +kernel
theorem eX6_trialIsAsSeen_6 : decode mX6_trialIsAsSeen.2.1 6 = .ok (.getfield 34, 3) := by decide +kernel
theorem eX6_trialIsAsSeen_9 : decode mX6_trialIsAsSeen.2.1 9 = .ok (.getfield 201, 3) := by decide +kernel
theorem eX6_trialIsAsSeen_12 : decode mX6_trialIsAsSeen.2.1 12 = .ok (.if_icmp .ge 23, 3) := by decide +kernel
theorem eX6_trialIsAsSeen_15 : decode mX6_trialIsAsSeen.2.1 15 = .ok (.iload_n 1, 1) := by decide +kernel
theorem eX6_trialIsAsSeen_16 : decode mX6_trialIsAsSeen.2.1 16 = .ok (.aload_n 0, 1) := by decide +kernel
theorem eX6_trialIsAsSeen_17 : decode mX6_trialIsAsSeen.2.1 17 = .ok (.getfield 34, 3) := by decide +kernel
theorem eX6_trialIsAsSeen_20 : decode mX6_trialIsAsSeen.2.1 20 = .ok (.iload_n 2, 1) := by decide +kernel
theorem eX6_trialIsAsSeen_21 : decode mX6_trialIsAsSeen.2.1 21 = .ok (.iconst 1, 1) := by decide +kernel
theorem eX6_trialIsAsSeen_22 : decode mX6_trialIsAsSeen.2.1 22 = .ok (.invokevirtual 204, 3) := by decide +kernel
theorem eX6_trialIsAsSeen_25 : decode mX6_trialIsAsSeen.2.1 25 = .ok (.invokestatic 265, 3) := by decide +kernel
theorem eX6_trialIsAsSeen_28 : decode mX6_trialIsAsSeen.2.1 28 = .ok (.istore_n 1, 1) := by decide +kernel
theorem eX6_trialIsAsSeen_29 : decode mX6_trialIsAsSeen.2.1 29 = .ok (.iinc 2 1, 3) := by decide +kernel
theorem eX6_trialIsAsSeen_32 : decode mX6_trialIsAsSeen.2.1 32 = .ok (.goto (-28), 3) := by decide +kernel
theorem eX6_trialIsAsSeen_35 : decode mX6_trialIsAsSeen.2.1 35 = .ok (.iconst 0, 1) := by decide +kernel
theorem eX6_trialIsAsSeen_36 : decode mX6_trialIsAsSeen.2.1 36 = .ok (.istore_n 2, 1) := by decide +kernel
theorem eX6_trialIsAsSeen_37 : decode mX6_trialIsAsSeen.2.1 37 = .ok (.iload_n 2, 1) := by decide +kernel
theorem eX6_trialIsAsSeen_38 : decode mX6_trialIsAsSeen.2.1 38 = .ok (.iload_n 1, 1) := by decide +kernel
theorem eX6_trialIsAsSeen_39 : decode mX6_trialIsAsSeen.2.1 39 = .ok (.if_icmp .gt 26, 3) := by decide +kernel
theorem eX6_trialIsAsSeen_42 : decode mX6_trialIsAsSeen.2.1 42 = .ok (.aload_n 0, 1) := by decide +kernel
theorem eX6_trialIsAsSeen_43 : decode mX6_trialIsAsSeen.2.1 43 = .ok (.iload_n 2, 1) := by decide +kernel
theorem eX6_trialIsAsSeen_44 : decode mX6_trialIsAsSeen.2.1 44 = .ok (.invokevirtual 270, 3) := by decide +kernel
theorem eX6_trialIsAsSeen_47 : decode mX6_trialIsAsSeen.2.1 47 = .ok (.ifCond .ne 5, 3) := by decide +kernel
theorem eX6_trialIsAsSeen_50 : decode mX6_trialIsAsSeen.2.1 50 = .ok (.iconst 0, 1) := by decide +kernel
theorem eX6_trialIsAsSeen_51 : decode mX6_trialIsAsSeen.2.1 51 = .ok (.ireturn, 1) := by decide +kernel
theorem eX6_trialIsAsSeen_52 : decode mX6_trialIsAsSeen.2.1 52 = .ok (.aload_n 0, 1) := by decide +kernel
theorem eX6_trialIsAsSeen_53 : decode mX6_trialIsAsSeen.2.1 53 = .ok (.getfield 21, 3) := by decide +kernel
theorem eX6_trialIsAsSeen_56 : decode mX6_trialIsAsSeen.2.1 56 = .ok (.invokevirtual 262, 3) := by decide +kernel
theorem eX6_trialIsAsSeen_59 : decode mX6_trialIsAsSeen.2.1 59 = .ok (.iinc 2 1, 3) := by decide +kernel
theorem eX6_trialIsAsSeen_62 : decode mX6_trialIsAsSeen.2.1 62 = .ok (.goto (-25), 3) := by decide +kernel
theorem eX6_trialIsAsSeen_65 : decode mX6_trialIsAsSeen.2.1 65 = .ok (.iconst 1, 1) := by decide +kernel
theorem eX6_trialIsAsSeen_66 : decode mX6_trialIsAsSeen.2.1 66 = .ok (.ireturn, 1) := by decide +kernel
theorem lpD {L : Nat} (hL : L ≤ 13) (ha5 : a ≤ 5) (hd : 5 ≤ d) {h0 : Hp} : ∀ (j q t : Nat) (y2 : Int32) (g : Nat → Int32) (h : Hp), j = L - q → q ≤ 13 → y2 = nI q → gOk g m t → gAge g m t → t + (13 - q) ≤ 30000 → SeR f g a → gS2 g m a → (∀ r, r < a → ∃ y, y < L ∧ g (71 + 3 * r) = nI y) → OA h 16 (.inr (6, afs bi se)) → WF F h 27 g (nI 2147483647) → RAt h 47 5 a f → Same 27 10 h0 h → (∀ h', DT h' 27 (nI 2147483647) → Same 27 10 h0 h' → Q (some (.int (zb (sAll F m a (13 - q) q t g)))) h') → AW l G mX6_trialIsAsSeen d 0 0 Q 0 0 h [some (.ref 16), some (.int (nI L - 1)), some (.int y2)] [] 37 := by
  intro j
  induction j using Nat.strongRecOn with
  | _ j ih =>
    intro q t y2 g h hj hq hy hg hA htk hSe hg2 hys hO hT hS hs hQ
    subst hy
    refine aw_iload_n (pc' := 38) eX6_trialIsAsSeen_37 rfl rfl ?_
    refine aw_iload_n (pc' := 39) eX6_trialIsAsSeen_38 rfl rfl ?_
    refine aw_icmp_gt (pc' := 42) (tgt := 65) eX6_trialIsAsSeen_39 rfl (by decide) (fun c_39 => ?_) (fun c_39 => ?_)
    · have c9 := (mx_c q (List.mem_range.mpr (by omega)) L (List.mem_range.mpr (by omega))).mp c_39
      refine aw_iconst (pc' := 66) (v := 1) eX6_trialIsAsSeen_65 rfl (by decide) ?_
      refine aw_ret (v := some (.int _)) eX6_trialIsAsSeen_66 ⟨rfl, rfl⟩ (by omega) (by omega) rfl ?_
      rw [sAll_t hg.2.1 (13 - q) q t g ha5 (by omega) (fun r hr => by obtain ⟨y, hy, e⟩ := hys r hr; exact ⟨y, by omega, e⟩)] at hQ
      exact hQ _ hT.dt hs
    · have c9 : q < L := by rcases Nat.lt_or_ge q L with z | z; exact z; exact absurd ((mx_c q (List.mem_range.mpr (by omega)) L (List.mem_range.mpr (by omega))).mpr z) c_39
      have hrow : ∀ j, 69 ≤ j → j < 85 → sDay F m t g j = g j := fun j h1 h2 => sDay_hi hg.2.1 (by omega) (by omega) (by omega)
      refine aw_aload_n (pc' := 43) eX6_trialIsAsSeen_42 rfl rfl trivial ?_
      refine aw_iload_n (pc' := 44) eX6_trialIsAsSeen_43 rfl rfl ?_
      refine aw_callv (pc' := 47) (nn := 1) (c_X6_trialIsAsSeenOn (d := d - 1) hO hT hg.1 hg.2.1 hS hSe hg2 (y := q) (by omega)) eX6_trialIsAsSeen_44 rfl ⟨q646, q649, q55⟩ q648 q17 ⟨rfl, by decide +kernel, by decide +kernel, by decide +kernel⟩ rfl (by rw [hO.1]; exact ⟨rfl, rfl⟩) rfl ⟨by omega, by decide⟩ ⟨by omega, by omega⟩ rfl (Nat.le_of_ble_eq_true rfl) (fun v1 h2 hq3 => ?_)
      obtain ⟨rfl, rfl⟩ := hq3
      dsimp only [Option.toList, List.cons_append, List.nil_append]
      refine aw_if_ne (pc' := 50) (tgt := 52) eX6_trialIsAsSeen_47 rfl (by decide) (fun c_47 => ?_) (fun c_47 => ?_)
      · have hsn := zb_ne0.mp c_47
        refine aw_aload_n (pc' := 53) eX6_trialIsAsSeen_52 rfl rfl trivial ?_
        refine aw_Oget (pc' := 56) (ci := 6) (kf := 1) (N := 14) (.ref 27) hO eX6_trialIsAsSeen_53 rfl rfl rfl inX6 (by decide) q251 rfl ?_
        refine aw_callv (pc' := 59) (nn := 0) (c_X5_dayGoes (d := d - 1) hT hg hA (by omega) (by omega) (by omega)) eX6_trialIsAsSeen_56 rfl ⟨q346, q349, q56⟩ q347 q348 ⟨rfl, by decide +kernel, by decide +kernel, by decide +kernel⟩ rfl hT.ob rfl ⟨by omega, by decide⟩ ⟨by omega, by omega⟩ rfl (Nat.le_of_ble_eq_true rfl) (fun v6 h7 hq8 => ?_)
        obtain ⟨rfl, hW4, hs5⟩ := hq8
        have hF9 := hO.fr hs5 (by omega)
        have hF10 := hS.fr hs5 (by omega)
        dsimp only [Option.toList, List.cons_append, List.nil_append]
        refine aw_iinc (pc' := 62) eX6_trialIsAsSeen_59 rfl rfl rfl (by decide) ?_
        dsimp only [zst, zst2, zcut]
        refine aw_goto eX6_trialIsAsSeen_62 (by decide) (tgt := 37) ?_
        rw [show 13 - q = 13 - (q + 1) + 1 by omega, sAll, if_pos hsn] at hQ
        exact ih (L - (q + 1)) (by omega) (q + 1) (t + 1) _ _ _ rfl (by omega) (nI_inc q) (sDay_ok hg (by omega)) (hA.day hg.2.1) (by omega) (hSe.of ha5 hrow) (hg2.of hrow) (fun r hr => by rw [sDay_hi hg.2.1 (by omega) (by omega) (by omega)]; exact hys r hr) hF9 hW4 hF10 (hs.tr hs5) hQ
      · have hsn := zb_eq0.mp c_47
        refine aw_iconst (pc' := 51) (v := 0) eX6_trialIsAsSeen_50 rfl (by decide) ?_
        refine aw_ret (v := some (.int _)) eX6_trialIsAsSeen_51 ⟨rfl, rfl⟩ (by omega) (by omega) rfl ?_
        rw [show 13 - q = 13 - (q + 1) + 1 by omega, sAll, if_neg (by rw [hsn]; decide)] at hQ
        exact hQ _ hT.dt hs
theorem lpM1 (hO : OA h 16 (.inr (6, afs bi se))) (hT : WF F h 27 g (nI 2147483647)) (hg : gOk g m t) (hA : gAge g m t) (ht9 : t ≤ 20000) (hS : RAt h 47 5 a f) (hSe : SeR f g a) (hg2 : gS2 g m a) (hd : 5 ≤ d) (hQ : ∀ h', DT h' 27 (nI 2147483647) → Same 27 10 h h' → Q (some (.int (zb (sAll F m a 13 0 t g)))) h') : ∀ (j q L : Nat) (y2 : Int32), j = a - q → q ≤ a → L ≤ 13 → y2 = nI q → (∀ r, r < q → ∃ y, y < L ∧ g (71 + 3 * r) = nI y) → AW l G mX6_trialIsAsSeen d 0 0 Q 0 0 h [some (.ref 16), some (.int (nI L - 1)), some (.int y2)] [] 4 := by
  have ha5 := hg2.2.1
  intro j
  induction j using Nat.strongRecOn with
  | _ j ih =>
    intro q L y2 hj hq hL hy hys
    subst hy
    refine aw_iload_n (pc' := 5) eX6_trialIsAsSeen_4 rfl rfl ?_
    refine aw_aload_n (pc' := 6) eX6_trialIsAsSeen_5 rfl rfl trivial ?_
    refine aw_Oget (pc' := 9) (ci := 6) (kf := 4) (N := 14) (.ref 47) hO eX6_trialIsAsSeen_6 rfl rfl rfl inX6 (by decide) q254 rfl ?_
    refine aw_OgetN (pc' := 12) (ci := 1) (kf := 2) (N := 3) (.int (nI a)) (hS).1 eX6_trialIsAsSeen_9 rfl rfl rfl inX1 (by decide) rfl (by decide) rfl ?_
    refine aw_icmp_ge (pc' := 15) (tgt := 35) eX6_trialIsAsSeen_12 rfl (by decide) (fun c_12 => ?_) (fun c_12 => ?_)
    · have c9 := ge_nI (by omega) (by omega) c_12
      obtain rfl : q = a := by omega
      refine aw_iconst (pc' := 36) (v := 0) eX6_trialIsAsSeen_35 rfl (by decide) ?_
      refine aw_istore_n (pc' := 37) eX6_trialIsAsSeen_36 rfl (by decide) ?_
      dsimp only [zst, zst2, zcut]
      refine lpD hL ha5 (by omega) (L - 0) 0 t _ g _ rfl (by omega) rfl hg hA (by omega) hSe hg2 hys hO hT hS Same.rf hQ
    · have c9 := nge_nI (by omega) (by omega) c_12
      have hse := hSe q c9
      refine aw_iload_n (pc' := 16) eX6_trialIsAsSeen_15 rfl rfl ?_
      refine aw_aload_n (pc' := 17) eX6_trialIsAsSeen_16 rfl rfl trivial ?_
      refine aw_Oget (pc' := 20) (ci := 6) (kf := 4) (N := 14) (.ref 47) hO eX6_trialIsAsSeen_17 rfl rfl rfl inX6 (by decide) q254 rfl ?_
      refine aw_iload_n (pc' := 21) eX6_trialIsAsSeen_20 rfl rfl ?_
      refine aw_iconst (pc' := 22) (v := 1) eX6_trialIsAsSeen_21 rfl (by decide) ?_
      refine aw_callv (pc' := 25) (nn := 2) (c_X1_cell (d := d - 1) hS (r := q) (c := 1) (by omega) (by omega) (by omega)) eX6_trialIsAsSeen_22 rfl ⟨q641, q644, q58⟩ q642 q643 ⟨rfl, by decide +kernel, by decide +kernel, by decide +kernel⟩ rfl hS.ob rfl ⟨by omega, by decide⟩ ⟨by omega, by omega⟩ rfl (Nat.le_of_ble_eq_true rfl) (fun v1 h2 hq3 => ?_)
      obtain ⟨rfl, rfl⟩ := hq3
      rw [hse.2.1]
      dsimp only [Option.toList, List.cons_append, List.nil_append]
      refine aw_mmax (pc' := 28) eX6_trialIsAsSeen_25 rfl q645 q509 q63 q510 (by omega) ⟨by omega, by omega⟩ (Nat.le_of_ble_eq_true rfl) ?_
      refine aw_istore_n (pc' := 29) eX6_trialIsAsSeen_28 rfl (by decide) ?_
      dsimp only [zst, zst2, zcut]
      refine aw_iinc (pc' := 32) eX6_trialIsAsSeen_29 rfl rfl rfl (by decide) ?_
      dsimp only [zst, zst2, zcut]
      refine aw_goto eX6_trialIsAsSeen_32 (by decide) (tgt := 4) ?_
      obtain ⟨v, hv, ev⟩ := (hg2.2.2 q c9).2
      rw [ev, mx_b L (List.mem_range.mpr (by omega)) v (List.mem_range.mpr (by omega))]
      exact ih (a - (q + 1)) (by omega) (q + 1) (max L (v + 1)) _ rfl (by omega) (by omega) (nI_inc q) (fun r hr => by
        by_cases c : r = q
        · subst c; exact ⟨v, by omega, ev⟩
        · obtain ⟨y, hy, e⟩ := hys r (by omega)
          exact ⟨y, by omega, e⟩)
theorem c_X6_trialIsAsSeen (hO : OA h 16 (.inr (6, afs bi se))) (hT : WF F h 27 g (nI 2147483647)) (hg : gOk g m t) (hA : gAge g m t) (ht9 : t ≤ 20000) (hS : RAt h 47 5 a f) (hSe : SeR f g a) (hg2 : gS2 g m a) (hd : 5 ≤ d) : Ct l G mX6_trialIsAsSeen yX6_trialIsAsSeen d 0 0 [.ref 16] h (fun r h' => r = some (.int (zb (sAll F m a 13 0 t g))) ∧ DT h' 27 (nI 2147483647) ∧ Same 27 10 h h') := by
  refine ct_of (lv := [some (.ref 16), none, none]) (by decide +kernel) rfl (fun z => by cases z) (fun _ => rfl) (fun _ => Nat.le_of_ble_eq_true rfl) ?_
  refine aw_iconst (pc' := 1) (v := -1) eX6_trialIsAsSeen_0 rfl (by decide) ?_
  refine aw_istore_n (pc' := 2) eX6_trialIsAsSeen_1 rfl (by decide) ?_
  dsimp only [zst, zst2, zcut]
  refine aw_iconst (pc' := 3) (v := 0) eX6_trialIsAsSeen_2 rfl (by decide) ?_
  refine aw_istore_n (pc' := 4) eX6_trialIsAsSeen_3 rfl (by decide) ?_
  dsimp only [zst, zst2, zcut]
  rw [show (-1 : Int32) = nI 0 - 1 from by decide]
  exact lpM1 hO hT hg hA ht9 hS hSe hg2 hd (fun h' a b => ⟨rfl, a, b⟩) a 0 0 _ (by omega) (by omega) (by omega) rfl (fun r hr => absurd hr (Nat.not_lt_zero r))
abbrev mX6_trialDoes : MT := (RX6, cX6_trialDoes, 3, none, false)
theorem eX6_trialDoes_0 : decode mX6_trialDoes.2.1 0 = .ok (.iload_n 1, 1) := by decide +kernel
theorem eX6_trialDoes_1 : decode mX6_trialDoes.2.1 1 = .ok (.ifCond .ne 13, 3) := by decide +kernel
theorem eX6_trialDoes_4 : decode mX6_trialDoes.2.1 4 = .ok (.aload_n 0, 1) := by decide +kernel
theorem eX6_trialDoes_5 : decode mX6_trialDoes.2.1 5 = .ok (.getfield 21, 3) := by decide +kernel
theorem eX6_trialDoes_8 : decode mX6_trialDoes.2.1 8 = .ok (.invokevirtual 262, 3) := by decide +kernel
theorem eX6_trialDoes_11 : decode mX6_trialDoes.2.1 11 = .ok (.goto 82, 3) := by decide +kernel
theorem eX6_trialDoes_14 : decode mX6_trialDoes.2.1 14 = .ok (.iload_n 1, 1) := by decide +kernel
theorem eX6_trialDoes_15 : decode mX6_trialDoes.2.1 15 = .ok (.iconst 3, 1) := by decide +kernel
theorem eX6_trialDoes_16 : decode mX6_trialDoes.2.1 16 = .ok (.if_icmp .ne 14, 3) := by decide +kernel
theorem eX6_trialDoes_19 : decode mX6_trialDoes.2.1 19 = .ok (.aload_n 0, 1) := by decide +kernel
theorem eX6_trialDoes_20 : decode mX6_trialDoes.2.1 20 = .ok (.getfield 21, 3) := by decide +kernel
theorem eX6_trialDoes_23 : decode mX6_trialDoes.2.1 23 = .ok (.iload_n 2, 1) := by decide +kernel
theorem eX6_trialDoes_24 : decode mX6_trialDoes.2.1 24 = .ok (.putfield 144, 3) := by decide +kernel
theorem eX6_trialDoes_27 : decode mX6_trialDoes.2.1 27 = .ok (.goto 66, 3) := by decide +kernel
theorem eX6_trialDoes_30 : decode mX6_trialDoes.2.1 30 = .ok (.iload_n 1, 1) := by decide +kernel
theorem eX6_trialDoes_31 : decode mX6_trialDoes.2.1 31 = .ok (.iconst 2, 1) := by decide +kernel
theorem eX6_trialDoes_32 : decode mX6_trialDoes.2.1 32 = .ok (.if_icmp .ne 25, 3) := by decide +kernel
theorem eX6_trialDoes_35 : decode mX6_trialDoes.2.1 35 = .ok (.aload_n 0, 1) := by decide +kernel
theorem eX6_trialDoes_36 : decode mX6_trialDoes.2.1 36 = .ok (.getfield 21, 3) := by decide +kernel
theorem eX6_trialDoes_39 : decode mX6_trialDoes.2.1 39 = .ok (.iload_n 2, 1) := by decide +kernel
theorem eX6_trialDoes_40 : decode mX6_trialDoes.2.1 40 = .ok (.invokevirtual 85, 3) := by decide +kernel
theorem eX6_trialDoes_43 : decode mX6_trialDoes.2.1 43 = .ok (.ifCond .eq 14, 3) := by decide +kernel
theorem eX6_trialDoes_46 : decode mX6_trialDoes.2.1 46 = .ok (.aload_n 0, 1) := by decide +kernel
theorem eX6_trialDoes_47 : decode mX6_trialDoes.2.1 47 = .ok (.getfield 21, 3) := by decide +kernel
theorem eX6_trialDoes_50 : decode mX6_trialDoes.2.1 50 = .ok (.iload_n 2, 1) := by decide +kernel
theorem eX6_trialDoes_51 : decode mX6_trialDoes.2.1 51 = .ok (.invokevirtual 273, 3) := by decide +kernel
theorem eX6_trialDoes_54 : decode mX6_trialDoes.2.1 54 = .ok (.goto 39, 3) := by decide +kernel
theorem eX6_trialDoes_57 : decode mX6_trialDoes.2.1 57 = .ok (.iload_n 1, 1) := by decide +kernel
theorem eX6_trialDoes_58 : decode mX6_trialDoes.2.1 58 = .ok (.iconst 1, 1) := by decide +kernel
theorem eX6_trialDoes_59 : decode mX6_trialDoes.2.1 59 = .ok (.if_icmp .ne 34, 3) := by decide +kernel
theorem eX6_trialDoes_62 : decode mX6_trialDoes.2.1 62 = .ok (.aload_n 0, 1) := by decide +kernel
theorem eX6_trialDoes_63 : decode mX6_trialDoes.2.1 63 = .ok (.getfield 21, 3) := by decide +kernel
theorem eX6_trialDoes_66 : decode mX6_trialDoes.2.1 66 = .ok (.iload_n 2, 1) := by decide +kernel
theorem eX6_trialDoes_67 : decode mX6_trialDoes.2.1 67 = .ok (.invokevirtual 85, 3) := by decide +kernel
theorem eX6_trialDoes_70 : decode mX6_trialDoes.2.1 70 = .ok (.ifCond .eq 23, 3) := by decide +kernel
theorem eX6_trialDoes_73 : decode mX6_trialDoes.2.1 73 = .ok (.aload_n 0, 1) := by decide +kernel
theorem eX6_trialDoes_74 : decode mX6_trialDoes.2.1 74 = .ok (.getfield 21, 3) := by decide +kernel
theorem eX6_trialDoes_77 : decode mX6_trialDoes.2.1 77 = .ok (.getfield 99, 3) := by decide +kernel
theorem eX6_trialDoes_80 : decode mX6_trialDoes.2.1 80 = .ok (.iload_n 2, 1) := by decide +kernel
theorem eX6_trialDoes_81 : decode mX6_trialDoes.2.1 81 = .ok (.iaload, 1) := by decide +kernel
theorem eX6_trialDoes_82 : decode mX6_trialDoes.2.1 82 = .ok (.ifCond .ne 11, 3) := by decide +kernel
theorem eX6_trialDoes_85 : decode mX6_trialDoes.2.1 85 = .ok (.aload_n 0, 1) := by decide +kernel
theorem eX6_trialDoes_86 : decode mX6_trialDoes.2.1 86 = .ok (.getfield 21, 3) := by decide +kernel
theorem eX6_trialDoes_89 : decode mX6_trialDoes.2.1 89 = .ok (.iload_n 2, 1) := by decide +kernel
theorem eX6_trialDoes_90 : decode mX6_trialDoes.2.1 90 = .ok (.invokevirtual 126, 3) := by decide +kernel
theorem eX6_trialDoes_93 : decode mX6_trialDoes.2.1 93 = .ok (.return_, 1) := by decide +kernel
theorem c_X6_trialDoes (hO : OA h 16 (.inr (6, afs bi se))) (hT : WF F h 27 g (nI 2147483647)) (hg : gOk g m t) (hA : gAge g m t) (ht9 : t ≤ 20000) {w x : Int32} (hw : w = 0 ∨ ((w = 1 ∨ w = 2) ∧ ∃ b, b < m ∧ x = nI b) ∨ w = 3) (hd : 5 ≤ d) : Ct l G mX6_trialDoes yX6_trialDoes d 0 0 [.ref 16, .int w, .int x] h (fun r h' => r = none ∧ WF F h' 27 (sPl1 F m t g w x).1 (nI 2147483647) ∧ Same 27 10 h h') := by
  refine ct_of (lv := [some (.ref 16), some (.int w), some (.int x)]) (by decide +kernel) rfl (fun z => by cases z) (fun _ => rfl) (fun _ => Nat.le_of_ble_eq_true rfl) ?_
  refine aw_iload_n (pc' := 1) eX6_trialDoes_0 rfl rfl ?_
  refine aw_if_ne (pc' := 4) (tgt := 14) eX6_trialDoes_1 rfl (by decide) (fun c_1 => ?_) (fun c_1 => ?_)
  · refine aw_iload_n (pc' := 15) eX6_trialDoes_14 rfl rfl ?_
    refine aw_iconst (pc' := 16) (v := 3) eX6_trialDoes_15 rfl (by decide) ?_
    refine aw_icmp_ne (pc' := 19) (tgt := 30) eX6_trialDoes_16 rfl (by decide) (fun c_16 => ?_) (fun c_16 => ?_)
    · refine aw_iload_n (pc' := 31) eX6_trialDoes_30 rfl rfl ?_
      refine aw_iconst (pc' := 32) (v := 2) eX6_trialDoes_31 rfl (by decide) ?_
      refine aw_icmp_ne (pc' := 35) (tgt := 57) eX6_trialDoes_32 rfl (by decide) (fun c_32 => ?_) (fun c_32 => ?_)
      · refine aw_iload_n (pc' := 58) eX6_trialDoes_57 rfl rfl ?_
        refine aw_iconst (pc' := 59) (v := 1) eX6_trialDoes_58 rfl (by decide) ?_
        refine aw_icmp_ne (pc' := 62) (tgt := 93) eX6_trialDoes_59 rfl (by decide) (fun c_59 => ?_) (fun c_59 => ?_)
        · exact absurd hw (fun z => z.elim c_1 (fun z => z.elim (fun z => z.1.elim c_59 c_32) c_16))
        · obtain ⟨b, hb, rfl⟩ := (hw.resolve_left c_1).resolve_right (fun z => by rw [z] at c_59; exact absurd c_59 (by decide)) |>.2
          have clb : (nI b).toNatClampNeg = b := nI_clamp (by have := hg.2.1; omega)
          refine aw_aload_n (pc' := 63) eX6_trialDoes_62 rfl rfl trivial ?_
          refine aw_Oget (pc' := 66) (ci := 6) (kf := 1) (N := 14) (.ref 27) hO eX6_trialDoes_63 rfl rfl rfl inX6 (by decide) q251 rfl ?_
          refine aw_iload_n (pc' := 67) eX6_trialDoes_66 rfl rfl ?_
          refine aw_callv (pc' := 70) (nn := 1) (c_X5_has (d := d - 1) hT hg.1 hg.2.1 _ (by omega)) eX6_trialDoes_67 rfl ⟨q305, q308, q56⟩ q306 q307 ⟨rfl, by decide +kernel, by decide +kernel, by decide +kernel⟩ rfl hT.ob rfl ⟨by omega, by decide⟩ ⟨by omega, by omega⟩ rfl (Nat.le_of_ble_eq_true rfl) (fun v1 h2 hq3 => ?_)
          obtain ⟨rfl, rfl⟩ := hq3
          dsimp only [Option.toList, List.cons_append, List.nil_append]
          refine aw_if_eq (pc' := 73) (tgt := 93) eX6_trialDoes_70 rfl (by decide) (fun c_70 => ?_) (fun c_70 => ?_)
          · exact absurd (zb_eq0.mp c_70) (by rw [(bIn_one hg.2.1).mpr ⟨b, hb, rfl⟩]; decide)
          · refine aw_aload_n (pc' := 74) eX6_trialDoes_73 rfl rfl trivial ?_
            refine aw_Oget (pc' := 77) (ci := 6) (kf := 1) (N := 14) (.ref 27) hO eX6_trialDoes_74 rfl rfl rfl inX6 (by decide) q251 rfl ?_
            refine aw_Fref (pc' := 80) (kf := 4) hT eX6_trialDoes_77 rfl (by decide) q105 ?_
            refine aw_iload_n (pc' := 81) eX6_trialDoes_80 rfl rfl ?_
            refine aw_Fld (pc' := 82) 4 3 b hT eX6_trialDoes_81 rfl (by decide) rfl (show vp_in _ 6 from vp_in_nI (by have := hg.2.1; omega) (by omega)) (nI_clamp (by have := hg.2.1; omega)) ?_
            refine aw_if_ne (pc' := 85) (tgt := 93) eX6_trialDoes_82 rfl (by decide) (fun c_82 => ?_) (fun c_82 => ?_)
            · refine aw_ret (v := none) eX6_trialDoes_93 rfl (by omega) (by omega) rfl ?_
              exact ⟨rfl, (hT).eq (by rw [sPl1, if_neg c_1, if_pos c_59, clb, sSays, if_neg c_82]), Same.rf⟩
            · refine aw_aload_n (pc' := 86) eX6_trialDoes_85 rfl rfl trivial ?_
              refine aw_Oget (pc' := 89) (ci := 6) (kf := 1) (N := 14) (.ref 27) hO eX6_trialDoes_86 rfl rfl rfl inX6 (by decide) q251 rfl ?_
              refine aw_iload_n (pc' := 90) eX6_trialDoes_89 rfl rfl ?_
              refine aw_callv (pc' := 93) (nn := 1) (c_X5_isTold (d := d - 1) hT (i := b) (by have := hg.2.1; omega) (by omega)) eX6_trialDoes_90 rfl ⟨q367, q370, q56⟩ q368 q369 ⟨rfl, by decide +kernel, by decide +kernel, by decide +kernel⟩ rfl hT.ob rfl ⟨by omega, by decide⟩ ⟨by omega, by omega⟩ rfl (Nat.le_of_ble_eq_true rfl) (fun v6 h7 hq8 => ?_)
              obtain ⟨rfl, hW4, hs5⟩ := hq8
              have hF9 := hO.fr hs5 (by omega)
              dsimp only [Option.toList, List.cons_append, List.nil_append]
              refine aw_ret (v := none) eX6_trialDoes_93 rfl (by omega) (by omega) rfl ?_
              exact ⟨rfl, (hW4).eq (by rw [sPl1, if_neg c_1, if_pos c_59, clb, sSays, if_pos c_82]), hs5⟩
      · obtain ⟨b, hb, rfl⟩ := (hw.resolve_left c_1).resolve_right (fun z => by rw [z] at c_32; exact absurd c_32 (by decide)) |>.2
        have clb : (nI b).toNatClampNeg = b := nI_clamp (by have := hg.2.1; omega)
        refine aw_aload_n (pc' := 36) eX6_trialDoes_35 rfl rfl trivial ?_
        refine aw_Oget (pc' := 39) (ci := 6) (kf := 1) (N := 14) (.ref 27) hO eX6_trialDoes_36 rfl rfl rfl inX6 (by decide) q251 rfl ?_
        refine aw_iload_n (pc' := 40) eX6_trialDoes_39 rfl rfl ?_
        refine aw_callv (pc' := 43) (nn := 1) (c_X5_has (d := d - 1) hT hg.1 hg.2.1 _ (by omega)) eX6_trialDoes_40 rfl ⟨q305, q308, q56⟩ q306 q307 ⟨rfl, by decide +kernel, by decide +kernel, by decide +kernel⟩ rfl hT.ob rfl ⟨by omega, by decide⟩ ⟨by omega, by omega⟩ rfl (Nat.le_of_ble_eq_true rfl) (fun v10 h11 hq12 => ?_)
        obtain ⟨rfl, rfl⟩ := hq12
        dsimp only [Option.toList, List.cons_append, List.nil_append]
        refine aw_if_eq (pc' := 46) (tgt := 57) eX6_trialDoes_43 rfl (by decide) (fun c_43 => ?_) (fun c_43 => ?_)
        · exact absurd (zb_eq0.mp c_43) (by rw [(bIn_one hg.2.1).mpr ⟨b, hb, rfl⟩]; decide)
        · refine aw_aload_n (pc' := 47) eX6_trialDoes_46 rfl rfl trivial ?_
          refine aw_Oget (pc' := 50) (ci := 6) (kf := 1) (N := 14) (.ref 27) hO eX6_trialDoes_47 rfl rfl rfl inX6 (by decide) q251 rfl ?_
          refine aw_iload_n (pc' := 51) eX6_trialDoes_50 rfl rfl ?_
          refine aw_callv (pc' := 54) (nn := 1) (c_X5_isSilent (d := d - 1) hT (i := b) (by have := hg.2.1; omega) (by omega)) eX6_trialDoes_51 rfl ⟨q678, q681, q56⟩ q679 q680 ⟨rfl, by decide +kernel, by decide +kernel, by decide +kernel⟩ rfl hT.ob rfl ⟨by omega, by decide⟩ ⟨by omega, by omega⟩ rfl (Nat.le_of_ble_eq_true rfl) (fun v15 h16 hq17 => ?_)
          obtain ⟨rfl, hW13, hs14⟩ := hq17
          have hF18 := hO.fr hs14 (by omega)
          dsimp only [Option.toList, List.cons_append, List.nil_append]
          refine aw_goto eX6_trialDoes_54 (by decide) (tgt := 93) ?_
          refine aw_ret (v := none) eX6_trialDoes_93 rfl (by omega) (by omega) rfl ?_
          exact ⟨rfl, (hW13).eq (by rw [sPl1, if_neg c_1, if_neg (by rw [c_32]; decide), if_pos c_32, clb]), hs14⟩
    · refine aw_aload_n (pc' := 20) eX6_trialDoes_19 rfl rfl trivial ?_
      refine aw_Oget (pc' := 23) (ci := 6) (kf := 1) (N := 14) (.ref 27) hO eX6_trialDoes_20 rfl rfl rfl inX6 (by decide) q251 rfl ?_
      refine aw_iload_n (pc' := 24) eX6_trialDoes_23 rfl rfl ?_
      refine aw_Fput (pc' := 27) 12 hT eX6_trialDoes_24 rfl (by decide) q120 (fun h21 hW19 hs20 => ?_)
      have hF22 := hO.fr hs20 (by omega)
      refine aw_goto eX6_trialDoes_27 (by decide) (tgt := 93) ?_
      refine aw_ret (v := none) eX6_trialDoes_93 rfl (by omega) (by omega) rfl ?_
      exact ⟨rfl, (hW19).eq (by rw [sPl1, if_neg c_1, if_neg (by rw [c_16]; decide), if_neg (by rw [c_16]; decide)]; rfl), hs20⟩
  · refine aw_aload_n (pc' := 5) eX6_trialDoes_4 rfl rfl trivial ?_
    refine aw_Oget (pc' := 8) (ci := 6) (kf := 1) (N := 14) (.ref 27) hO eX6_trialDoes_5 rfl rfl rfl inX6 (by decide) q251 rfl ?_
    refine aw_callv (pc' := 11) (nn := 0) (c_X5_dayGoes (d := d - 1) hT hg hA (by omega) (by omega) (by omega)) eX6_trialDoes_8 rfl ⟨q346, q349, q56⟩ q347 q348 ⟨rfl, by decide +kernel, by decide +kernel, by decide +kernel⟩ rfl hT.ob rfl ⟨by omega, by decide⟩ ⟨by omega, by omega⟩ rfl (Nat.le_of_ble_eq_true rfl) (fun v25 h26 hq27 => ?_)
    obtain ⟨rfl, hW23, hs24⟩ := hq27
    have hF28 := hO.fr hs24 (by omega)
    dsimp only [Option.toList, List.cons_append, List.nil_append]
    refine aw_goto eX6_trialDoes_11 (by decide) (tgt := 93) ?_
    refine aw_ret (v := none) eX6_trialDoes_93 rfl (by omega) (by omega) rfl ?_
    exact ⟨rfl, (hW23).eq (by rw [sPl1, if_pos c_1]), hs24⟩
theorem rem0 {x : Int32} {y : Nat} (hy : 2 ≤ y) (hy2 : y < 2147483648) : x - x / nI y * nI y = 0 ↔ ((y : Int) ∣ x.toInt) := by
  rw [irem_eq_mod, Int.dvd_iff_tmod_eq_zero]
  have e : (x % nI y).toInt = x.toInt.tmod y := by rw [Int32.toInt_mod, nI_toInt (by omega)]
  constructor
  · intro z
    rw [← e, z]; rfl
  · intro z
    apply Int32.toInt_inj.mp
    rw [e, z]; rfl
theorem ne_m1 {y : Nat} (hy2 : y < 2147483648) : nI y ≠ -1 := fun z => by
  have := congrArg Int32.toInt z
  rw [nI_toInt (by omega), show (-1 : Int32).toInt = -1 from by decide] at this
  omega
theorem lne_m1 {y : Nat} (hy2 : y < 2147483648) : lN y ≠ -1 := fun z => by
  have := congrArg Int64.toInt z
  rw [pk_lT (by omega), show (-1 : Int64).toInt = -1 from by decide] at this
  omega
theorem div64 {x : Int32} {y : Nat} (hy2 : y < 2147483648) : (x / nI y).toInt64 = x.toInt64 / lN y := by
  apply Int64.toInt_inj.mp
  rw [Int32.toInt_toInt64, Int32.toInt_div_of_ne_right _ _ (ne_m1 hy2), Int64.toInt_div_of_ne_right _ _ (lne_m1 hy2), Int32.toInt_toInt64, nI_toInt (by omega), pk_lT (by omega)]
theorem frac_y {x : Int32} {b y : Nat} {p : Int32} (hb : b < 2147483648) (hy : y < 2147483648) (e : Nat.gcd x.toInt.natAbs b = y) : ((if p = 0 then x else nI b) / nI y).toInt64 = sFrac x.toInt64 b p := by
  unfold sFrac
  rw [Int32.toInt_toInt64, e]
  split
  · exact div64 hy
  · rw [div64 hy, nI_l (by omega)]
theorem gcd_y {x : Int} {b y : Nat} (hb : 0 < b) (h1 : (y : Int) ∣ x) (h2 : y ∣ b) (hz : ∀ z, y < z → z ≤ b → ¬ ((z : Int) ∣ x ∧ z ∣ b)) : Nat.gcd x.natAbs b = y := by
  have d1 : y ∣ Nat.gcd x.natAbs b := Nat.dvd_gcd (Int.natAbs_dvd_natAbs.mpr h1) h2
  have g1 := Nat.gcd_dvd_left x.natAbs b
  have g2 := Nat.gcd_dvd_right x.natAbs b
  have hp : 0 < Nat.gcd x.natAbs b := Nat.gcd_pos_of_pos_right _ hb
  have l1 := Nat.le_of_dvd hp d1
  have l2 := Nat.le_of_dvd hb g2
  rcases Nat.lt_or_ge y (Nat.gcd x.natAbs b) with c | c
  · exact absurd ⟨Int.ofNat_dvd_left.mpr g1, g2⟩ (hz _ c l2)
  · omega
abbrev mX6_inLowestTerms : MT := (RX6, cX6_inLowestTerms, 5, (some .long), false)
theorem eX6_inLowestTerms_0 : decode mX6_inLowestTerms.2.1 0 = .ok (.iload_n 2, 1) := by decide +kernel
theorem eX6_inLowestTerms_1 : decode mX6_inLowestTerms.2.1 1 = .ok (.ifCond .ne 7, 3) := by decide +kernel
theorem eX6_inLowestTerms_4 : decode mX6_inLowestTerms.2.1 4 = .ok (.iload_n 0, 1) := by decide +kernel
theorem eX6_inLowestTerms_5 : decode mX6_inLowestTerms.2.1 5 = .ok (.goto 4, 3) := by decide +kernel
theorem eX6_inLowestTerms_8 : decode mX6_inLowestTerms.2.1 8 = .ok (.iload_n 1, 1) := by decide +kernel
theorem eX6_inLowestTerms_9 : decode mX6_inLowestTerms.2.1 9 = .ok (.istore_n 3, 1) := by decide +kernel
theorem eX6_inLowestTerms_10 : decode mX6_inLowestTerms.2.1 10 = .ok (.iload_n 1, 1) := by decide +kernel
theorem eX6_inLowestTerms_11 : decode mX6_inLowestTerms.2.1 11 = .ok (.istore 4, 2) := by decide +kernel
theorem eX6_inLowestTerms_13 : decode mX6_inLowestTerms.2.1 13 = .ok (.iload 4, 2) := by decide +kernel
theorem eX6_inLowestTerms_15 : decode mX6_inLowestTerms.2.1 15 = .ok (.iconst 1, 1) := by decide +kernel
theorem eX6_inLowestTerms_16 : decode mX6_inLowestTerms.2.1 16 = .ok (.if_icmp .le 29, 3) := by decide +kernel
theorem eX6_inLowestTerms_19 : decode mX6_inLowestTerms.2.1 19 = .ok (.iload_n 0, 1) := by decide +kernel
theorem eX6_inLowestTerms_20 : decode mX6_inLowestTerms.2.1 20 = .ok (.iload 4, 2) := by decide +kernel
theorem eX6_inLowestTerms_22 : decode mX6_inLowestTerms.2.1 22 = .ok (.irem, 1) := by decide +kernel
theorem eX6_inLowestTerms_23 : decode mX6_inLowestTerms.2.1 23 = .ok (.ifCond .ne 16, 3) := by decide +kernel
theorem eX6_inLowestTerms_26 : decode mX6_inLowestTerms.2.1 26 = .ok (.iload_n 1, 1) := by decide +kernel
theorem eX6_inLowestTerms_27 : decode mX6_inLowestTerms.2.1 27 = .ok (.iload 4, 2) := by decide +kernel
theorem eX6_inLowestTerms_29 : decode mX6_inLowestTerms.2.1 29 = .ok (.irem, 1) := by decide +kernel
theorem eX6_inLowestTerms_30 : decode mX6_inLowestTerms.2.1 30 = .ok (.ifCond .ne 9, 3) := by decide +kernel
theorem eX6_inLowestTerms_33 : decode mX6_inLowestTerms.2.1 33 = .ok (.iload_n 3, 1) := by decide +kernel
theorem eX6_inLowestTerms_34 : decode mX6_inLowestTerms.2.1 34 = .ok (.iload 4, 2) := by decide +kernel
theorem eX6_inLowestTerms_36 : decode mX6_inLowestTerms.2.1 36 = .ok (.idiv, 1) := by decide +kernel
theorem eX6_inLowestTerms_37 : decode mX6_inLowestTerms.2.1 37 = .ok (.i2l, 1) := by decide +kernel
theorem eX6_inLowestTerms_38 : decode mX6_inLowestTerms.2.1 38 = .ok (.lreturn, 1) := by decide +kernel
theorem eX6_inLowestTerms_39 : decode mX6_inLowestTerms.2.1 39 = .ok (.iinc 4 (-1), 3) := by decide +kernel
theorem eX6_inLowestTerms_42 : decode mX6_inLowestTerms.2.1 42 = .ok (.goto (-29), 3) := by decide +kernel
theorem eX6_inLowestTerms_45 : decode mX6_inLowestTerms.2.1 45 = .ok (.iload_n 3, 1) := by decide +kernel
theorem eX6_inLowestTerms_46 : decode mX6_inLowestTerms.2.1 46 = .ok (.i2l, 1) := by decide +kernel
theorem eX6_inLowestTerms_47 : decode mX6_inLowestTerms.2.1 47 = .ok (.lreturn, 1) := by decide +kernel
theorem lp_X6_inLowestTerms {x asked : Int32} {b : Nat} {p : Int32} (hb0 : 0 < b) (hb : b < 2147483648) (hask : ∀ y, y < 2147483648 → Nat.gcd x.toInt.natAbs b = y → (asked / nI y).toInt64 = sFrac x.toInt64 b p) : ∀ (y : Nat) (y4 : Int32), 1 ≤ y → y ≤ b → y4 = nI y → (∀ z, y < z → z ≤ b → ¬ ((z : Int) ∣ x.toInt ∧ z ∣ b)) → AW l G mX6_inLowestTerms d 0 0 (fun r h' => r = some (.long (sFrac x.toInt64 b p)) ∧ h' = h) 0 0 h [some (.int x), some (.int (nI b)), some (.int p), some (.int asked), some (.int y4)] [] 13 := by
  intro y
  induction y using Nat.strongRecOn with
  | _ y ih =>
    intro y4 h1 h2 hy hz
    subst hy
    refine aw_iload (pc' := 15) eX6_inLowestTerms_13 rfl rfl ?_
    refine aw_iconst (pc' := 16) (v := 1) eX6_inLowestTerms_15 rfl (by decide) ?_
    refine aw_icmp_le (pc' := 19) (tgt := 45) eX6_inLowestTerms_16 rfl (by decide) (fun c_16 => ?_) (fun c_16 => ?_)
    · have c9 : y = 1 := by have := (nI_leI (b := 1) (by omega) (by omega)).mp c_16; omega
      subst c9
      refine aw_iload_n (pc' := 46) eX6_inLowestTerms_45 rfl rfl ?_
      refine aw_i2l (pc' := 47) eX6_inLowestTerms_46 rfl ?_
      refine aw_ret (v := some (.long _)) eX6_inLowestTerms_47 ⟨rfl, rfl⟩ (by omega) (by omega) rfl ?_
      have e := hask 1 (by omega) (gcd_y hb0 (Int.one_dvd _) (Nat.one_dvd _) hz)
      rw [show nI 1 = 1 from rfl, Int32.div_one] at e
      rw [e]
      exact ⟨rfl, rfl⟩
    · have c9 : 1 < y := (nI_ltI (a := 1) (by omega) (by omega)).mp (Int32.not_le.mp c_16)
      refine aw_iload_n (pc' := 20) eX6_inLowestTerms_19 rfl rfl ?_
      refine aw_iload (pc' := 22) eX6_inLowestTerms_20 rfl rfl ?_
      refine aw_irem (pc' := 23) eX6_inLowestTerms_22 rfl (fun z => by have := (nI_eq (a := y) (b := 0) (by omega) (by omega)).mp z; omega) ?_
      refine aw_if_ne (pc' := 26) (tgt := 39) eX6_inLowestTerms_23 rfl (by decide) (fun c_23 => ?_) (fun c_23 => ?_)
      · refine aw_iinc (pc' := 42) eX6_inLowestTerms_39 rfl rfl rfl (by decide) ?_
        dsimp only [zst, zst2, zcut]
        refine aw_goto eX6_inLowestTerms_42 (by decide) (tgt := 13) ?_
        exact ih (y - 1) (by omega) _ (by omega) (by omega) (nI_dec (by omega)) (fun z h1 h2 => by
          by_cases c : z = y
          · subst c; exact fun w => c_23 ((rem0 (by omega) (by omega)).mpr w.1)
          · exact hz z (by omega) h2)
      · refine aw_iload_n (pc' := 27) eX6_inLowestTerms_26 rfl rfl ?_
        refine aw_iload (pc' := 29) eX6_inLowestTerms_27 rfl rfl ?_
        refine aw_irem (pc' := 30) eX6_inLowestTerms_29 rfl (fun z => by have := (nI_eq (a := y) (b := 0) (by omega) (by omega)).mp z; omega) ?_
        refine aw_if_ne (pc' := 33) (tgt := 39) eX6_inLowestTerms_30 rfl (by decide) (fun c_30 => ?_) (fun c_30 => ?_)
        · refine aw_iinc (pc' := 42) eX6_inLowestTerms_39 rfl rfl rfl (by decide) ?_
          dsimp only [zst, zst2, zcut]
          refine aw_goto eX6_inLowestTerms_42 (by decide) (tgt := 13) ?_
          exact ih (y - 1) (by omega) _ (by omega) (by omega) (nI_dec (by omega)) (fun z h1 h2 => by
            by_cases c : z = y
            · subst c; exact fun w => c_30 ((rem0 (x := nI b) (by omega) (by omega)).mpr (by rw [nI_toInt (by omega)]; exact Int.ofNat_dvd.mpr w.2))
            · exact hz z (by omega) h2)
        · refine aw_iload_n (pc' := 34) eX6_inLowestTerms_33 rfl rfl ?_
          refine aw_iload (pc' := 36) eX6_inLowestTerms_34 rfl rfl ?_
          refine aw_idiv (pc' := 37) eX6_inLowestTerms_36 rfl (fun z => by have := (nI_eq (a := y) (b := 0) (by omega) (by omega)).mp z; omega) ?_
          refine aw_i2l (pc' := 38) eX6_inLowestTerms_37 rfl ?_
          refine aw_ret (v := some (.long _)) eX6_inLowestTerms_38 ⟨rfl, rfl⟩ (by omega) (by omega) rfl ?_
          have e := hask y (by omega) (gcd_y hb0 ((rem0 (by omega) (by omega)).mp c_23) (Int.ofNat_dvd.mp (by have z := (rem0 (x := nI b) (by omega) (by omega)).mp c_30; rw [nI_toInt (by omega)] at z; exact z)) hz)
          rw [e]
          exact ⟨rfl, rfl⟩
theorem c_X6_inLowestTerms (x : Int32) {b : Nat} (hb0 : 0 < b) (hb : b < 2147483648) (p : Int32) (hd : 0 ≤ d) : Ct l G mX6_inLowestTerms yX6_inLowestTerms d 0 0 [.int x, .int (nI b), .int p] h (fun r h' => r = some (.long (sFrac x.toInt64 b p)) ∧ h' = h) := by
  refine ct_of (lv := [some (.int x), some (.int (nI b)), some (.int p), none, none]) (by decide +kernel) rfl (fun z => by cases z) (fun _ => rfl) (fun _ => Nat.le_of_ble_eq_true rfl) ?_
  refine aw_iload_n (pc' := 1) eX6_inLowestTerms_0 rfl rfl ?_
  refine aw_if_ne (pc' := 4) (tgt := 8) eX6_inLowestTerms_1 rfl (by decide) (fun c_1 => ?_) (fun c_1 => ?_)
  · refine aw_iload_n (pc' := 9) eX6_inLowestTerms_8 rfl rfl ?_
    refine aw_istore_n (pc' := 10) eX6_inLowestTerms_9 rfl (by decide) ?_
    dsimp only [zst, zst2, zcut]
    refine aw_iload_n (pc' := 11) eX6_inLowestTerms_10 rfl rfl ?_
    refine aw_istore (pc' := 13) eX6_inLowestTerms_11 rfl (by decide) ?_
    dsimp only [zst, zst2, zcut]
    exact lp_X6_inLowestTerms hb0 hb (fun y hy e => by rw [← frac_y (p := p) hb hy e, if_neg c_1]) b _ (by omega) (by omega) rfl (fun z h1 h2 => absurd h1 (by omega))
  · refine aw_iload_n (pc' := 5) eX6_inLowestTerms_4 rfl rfl ?_
    refine aw_goto eX6_inLowestTerms_5 (by decide) (tgt := 9) ?_
    refine aw_istore_n (pc' := 10) eX6_inLowestTerms_9 rfl (by decide) ?_
    dsimp only [zst, zst2, zcut]
    refine aw_iload_n (pc' := 11) eX6_inLowestTerms_10 rfl rfl ?_
    refine aw_istore (pc' := 13) eX6_inLowestTerms_11 rfl (by decide) ?_
    dsimp only [zst, zst2, zcut]
    exact lp_X6_inLowestTerms hb0 hb (fun y hy e => by rw [← frac_y (p := p) hb hy e, if_pos c_1]) b _ (by omega) (by omega) rfl (fun z h1 h2 => absurd h1 (by omega))
end C15
