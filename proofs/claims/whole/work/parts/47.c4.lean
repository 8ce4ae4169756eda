/-! the class: a day -/
section C4
variable {F : FT} {l : Launch} {G : GT} {w : Nat} {d n m t : Nat} {g : Nat → Int32} {o : Int32} {h : Hp} {Q : Option Value → Hp → Prop}
theorem sHv_neg {F : FT} {g : Nat → Int32} {m t k : Nat} (hk : k ≤ 6) : (sHv F g m t k).1 < 0 ↔ (sHv F g m t k).1 = -1 := by
  rcases sHv_or F g m t k with e | ⟨j, h1, e⟩
  · rw [e]; decide
  · rw [e]
    constructor
    · intro c
      have := (nI_ltI (a := j) (b := 0) (by omega) (by omega)).mp c
      omega
    · intro c
      have e1 : (nI j).toInt = (-1 : Int32).toInt := by rw [c]
      rw [nI_toInt (by omega), show (-1 : Int32).toInt = -1 from by decide] at e1
      omega
def cDr (cur : Int32) (g : Nat → Int32) : Nat → (Nat → Int32)
  | 0 => g
  | i + 1 => sD1 cur i (cDr cur g i)
def cFd (g : Nat → Int32) : Nat → (Nat → Int32)
  | 0 => g
  | i + 1 => sD3 i (sD2 i (cFd g i))
theorem cDr_hi {cur : Int32} {g : Nat → Int32} {j : Nat} (hj : 60 ≤ j) : ∀ i, i ≤ 6 → cDr cur g i j = g j
  | 0, _ => rfl
  | i + 1, h => by rw [cDr, sD1_hi (by omega) hj, cDr_hi hj i (by omega)]
theorem cFd_hi {g : Nat → Int32} {j : Nat} (hj : 60 ≤ j) : ∀ i, i ≤ 6 → cFd g i j = g j
  | 0, _ => rfl
  | i + 1, h => by rw [cFd, sD3_hi (by omega) hj, sD2_hi (by omega) hj, cFd_hi hj i (by omega)]
theorem sD1_ne {cur : Int32} {i j : Nat} {g : Nat → Int32} (h3 : j ≠ 10 * i + 3) (h5 : j ≠ 10 * i + 5) : sD1 cur i g j = g j := by
  unfold sD1
  split
  · rw [upd_ne h3, upd_ne h5]
  · rfl
theorem sD2_ne {i j : Nat} {g : Nat → Int32} (h3 : j ≠ 10 * i + 3) : sD2 i g j = g j := by
  unfold sD2
  split
  · rw [upd_ne h3]
  · rfl
theorem sD3_ne {i j : Nat} {g : Nat → Int32} (h4 : j ≠ 10 * i + 4) : sD3 i g j = g j := by
  unfold sD3
  split
  · rw [upd_ne h4]
  · rfl
theorem upd_comm {f : Nat → Int32} {a b : Nat} {x y : Int32} (h : a ≠ b) : upd (upd f a x) b y = upd (upd f b y) a x := by
  funext j
  simp only [upd_if]
  by_cases e : j = b
  · rw [if_pos e, if_pos e, if_neg (by omega)]
  · rw [if_neg e, if_neg e]
theorem sD1_upd {cur : Int32} {i j : Nat} {g : Nat → Int32} {x : Int32} (h3 : j ≠ 10 * i + 3) (h5 : j ≠ 10 * i + 5) (h61 : j ≠ 61) : sD1 cur i (upd g j x) = upd (sD1 cur i g) j x := by
  unfold sD1
  rw [upd_ne (Ne.symm h3), upd_ne (Ne.symm h5), upd_ne (Ne.symm h61)]
  split
  · rw [upd_comm h5, upd_comm h3]
  · rfl
theorem sD12 {cur : Int32} {i j : Nat} {g : Nat → Int32} (hij : j ≠ i) (hj : j < 6) (hi : i < 6) : sD1 cur i (sD2 j g) = sD2 j (sD1 cur i g) := by
  unfold sD2
  rw [sD1_ne (by omega) (by omega), sD1_ne (by omega) (by omega), sD1_ne (j := 62) (by omega) (by omega)]
  split
  · rw [sD1_upd (by omega) (by omega) (by omega)]
  · rfl
theorem sD13 {cur : Int32} {i j : Nat} {g : Nat → Int32} (hij : j ≠ i) (hj : j < 6) (hi : i < 6) : sD1 cur i (sD3 j g) = sD3 j (sD1 cur i g) := by
  unfold sD3
  rw [sD1_ne (by omega) (by omega), sD1_ne (by omega) (by omega)]
  split
  · rw [sD1_upd (by omega) (by omega) (by omega)]
  · rfl
theorem sD1_Fd {cur : Int32} {i : Nat} (hi : i < 6) (g : Nat → Int32) : ∀ k, k ≤ i → sD1 cur i (cFd g k) = cFd (sD1 cur i g) k
  | 0, _ => rfl
  | k + 1, h => by rw [cFd, sD13 (by omega) (by omega) hi, sD12 (by omega) (by omega) hi, sD1_Fd hi g k (by omega), cFd]
theorem sD1_Fi {cur : Int32} {i : Nat} (hi : i < 6) (g : Nat → Int32) : sD1 cur i (sFi g) = sFi (sD1 cur i g) := by
  unfold sFi
  rw [sD1_upd (by omega) (by omega) (by omega), sD1_ne (j := 62) (by omega) (by omega)]
theorem dy_eq (cur : Int32) (g : Nat → Int32) : ∀ k, k ≤ 6 → sDs cur (sFi g) k = cFd (sFi (cDr cur g k)) k
  | 0, _ => rfl
  | k + 1, h => by rw [sDs, dy_eq cur g k (by omega), sD1_Fd (by omega) _ k (Nat.le_refl _), sD1_Fi (by omega), cFd, cDr]
/-- no age is more than t -/
def gAge (g : Nat → Int32) (m t : Nat) : Prop := ∀ i, i < m → ∃ a, a ≤ t ∧ g (10 * i + 4) = nI a
theorem gAge.of {g g' : Nat → Int32} {m t : Nat} (hA : gAge g m t) (e : ∀ i, i < m → g' (10 * i + 4) = g (10 * i + 4)) : gAge g' m t := fun i hi => by
  rw [e i hi]; exact hA i hi
theorem sBring_a {F : FT} {g : Nat → Int32} {m t : Nat} (hm6 : m ≤ 6) (i : Nat) : sBring F g m t (10 * i + 4) = g (10 * i + 4) := by
  unfold sBring
  split
  · rename_i c
    obtain ⟨b, hb, e⟩ := (sHv_or F g m t m).resolve_left c.2
    rw [e, nI_clamp (by omega), upd_ne (by omega), upd_ne (by omega)]
  · rfl
theorem cDr_a {cur : Int32} {g : Nat → Int32} (i : Nat) : ∀ k, cDr cur g k (10 * i + 4) = g (10 * i + 4)
  | 0 => rfl
  | k + 1 => by rw [cDr, sD1_ne (by omega) (by omega), cDr_a i k]
theorem cFd_a {g : Nat → Int32} (i : Nat) : ∀ k, k ≤ i → cFd g k (10 * i + 4) = g (10 * i + 4)
  | 0, _ => rfl
  | k + 1, h => by rw [cFd, sD3_ne (by omega), sD2_ne (by omega), cFd_a i k (by omega)]
theorem cFd_b {g : Nat → Int32} (i : Nat) : ∀ k, cFd g k (10 * i + 4) = g (10 * i + 4) ∨ cFd g k (10 * i + 4) = g (10 * i + 4) + 1
  | 0 => Or.inl rfl
  | k + 1 => by
    by_cases e : k = i
    · subst e
      rw [cFd]
      unfold sD3
      split
      · rw [upd_eq, sD2_ne (by omega), cFd_a k k (Nat.le_refl _)]
        exact Or.inr rfl
      · rw [sD2_ne (by omega), cFd_a k k (Nat.le_refl _)]
        exact Or.inl rfl
    · rw [cFd, sD3_ne (by omega), sD2_ne (by omega)]
      exact cFd_b i k
theorem sDay_eq {F : FT} {g : Nat → Int32} {m t : Nat} (hm6 : m ≤ 6) : sDay F m t g = upd (cFd (sFi (cDr (g (63 + t % 4)) (sBring F g m t) m)) m) 67 (nI (t + 1)) := by
  rw [sDay, dy_eq _ _ m hm6]
theorem gAge.day {F : FT} {g : Nat → Int32} {m t : Nat} (hA : gAge g m t) (hm6 : m ≤ 6) : gAge (sDay F m t g) m (t + 1) := fun i hi => by
  obtain ⟨a, ha, e⟩ := hA i hi
  rw [sDay_eq hm6, upd_ne (by omega)]
  have e2 : sFi (cDr (g (63 + t % 4)) (sBring F g m t) m) (10 * i + 4) = nI a := by
    rw [sFi, upd_ne (by omega), cDr_a, sBring_a hm6, e]
  rcases cFd_b (g := sFi (cDr (g (63 + t % 4)) (sBring F g m t) m)) i m with z | z
  · exact ⟨a, by omega, by rw [z, e2]⟩
  · exact ⟨a + 1, by omega, by rw [z, e2]; exact nI_1 a⟩
theorem gAge.days {F : FT} {m : Nat} (hm6 : m ≤ 6) : ∀ (k t : Nat) (g : Nat → Int32), gAge g m t → gAge (sDys F m k t g) m (t + k)
  | 0, _, _, h => h
  | k + 1, t, g, h => by
    rw [show t + (k + 1) = t + 1 + k by omega]
    exact gAge.days hm6 k (t + 1) _ (h.day hm6)

abbrev mX5_bringUp : MT := (RX5, cX5_bringUp, 6, none, false)
theorem eX5_bringUp_0 : decode mX5_bringUp.2.1 0 = .ok (.iconst 0, 1) := by decide +kernel
theorem eX5_bringUp_1 : decode mX5_bringUp.2.1 1 = .ok (.istore_n 1, 1) := by decide +kernel
theorem eX5_bringUp_2 : decode mX5_bringUp.2.1 2 = .ok (.iconst 0, 1) := by decide +kernel
theorem eX5_bringUp_3 : decode mX5_bringUp.2.1 3 = .ok (.istore_n 2, 1) := by decide +kernel
theorem eX5_bringUp_4 : decode mX5_bringUp.2.1 4 = .ok (.iconst (-1), 1) := by decide +kernel
theorem eX5_bringUp_5 : decode mX5_bringUp.2.1 5 = .ok (.istore_n 3, 1) := by decide +kernel
theorem eX5_bringUp_6 : decode mX5_bringUp.2.1 6 = .ok (.iconst 0, 1) := by decide +kernel
theorem eX5_bringUp_7 : decode mX5_bringUp.2.1 7 = .ok (.istore 4, 2) := by decide +kernel
theorem eX5_bringUp_9 : decode mX5_bringUp.2.1 9 = .ok (.iload 4, 2) := by decide +kernel
theorem eX5_bringUp_11 : decode mX5_bringUp.2.1 11 = .ok (.aload_n 0, 1) := by decide +kernel
theorem eX5_bringUp_12 : decode mX5_bringUp.2.1 12 = .ok (.getfield 49, 3) := by decide +kernel
theorem eX5_bringUp_15 : decode mX5_bringUp.2.1 15 = .ok (.if_icmp .ge 49, 3) := by decide +kernel
theorem eX5_bringUp_18 : decode mX5_bringUp.2.1 18 = .ok (.aload_n 0, 1) := by decide +kernel
theorem eX5_bringUp_19 : decode mX5_bringUp.2.1 19 = .ok (.getfield 21, 3) := by decide +kernel
theorem eX5_bringUp_22 : decode mX5_bringUp.2.1 22 = .ok (.iload 4, 2) := by decide +kernel
theorem eX5_bringUp_24 : decode mX5_bringUp.2.1 24 = .ok (.iaload, 1) := by decide +kernel
theorem eX5_bringUp_25 : decode mX5_bringUp.2.1 25 = .ok (.iconst 1, 1) := by decide +kernel
theorem eX5_bringUp_26 : decode mX5_bringUp.2.1 26 = .ok (.if_icmp .ne 32, 3) := by decide +kernel
theorem eX5_bringUp_29 : decode mX5_bringUp.2.1 29 = .ok (.aload_n 0, 1) := by decide +kernel
theorem eX5_bringUp_30 : decode mX5_bringUp.2.1 30 = .ok (.iload 4, 2) := by decide +kernel
theorem eX5_bringUp_32 : decode mX5_bringUp.2.1 32 = .ok (.invokevirtual 78, 3) := by decide +kernel
theorem eX5_bringUp_35 : decode mX5_bringUp.2.1 35 = .ok (.istore 5, 2) := by decide +kernel
theorem eX5_bringUp_37 : decode mX5_bringUp.2.1 37 = .ok (.iload_n 1, 1) := by decide +kernel
theorem eX5_bringUp_38 : decode mX5_bringUp.2.1 38 = .ok (.iload 5, 2) := by decide +kernel
theorem eX5_bringUp_40 : decode mX5_bringUp.2.1 40 = .ok (.iadd, 1) := by decide +kernel
theorem eX5_bringUp_41 : decode mX5_bringUp.2.1 41 = .ok (.istore_n 1, 1) := by decide +kernel
theorem eX5_bringUp_42 : decode mX5_bringUp.2.1 42 = .ok (.iload_n 3, 1) := by decide +kernel
theorem eX5_bringUp_43 : decode mX5_bringUp.2.1 43 = .ok (.ifCond .lt 9, 3) := by decide +kernel
theorem eX5_bringUp_46 : decode mX5_bringUp.2.1 46 = .ok (.iload 5, 2) := by decide +kernel
theorem eX5_bringUp_48 : decode mX5_bringUp.2.1 48 = .ok (.iload_n 2, 1) := by decide +kernel
theorem eX5_bringUp_49 : decode mX5_bringUp.2.1 49 = .ok (.if_icmp .le 9, 3) := by decide +kernel
theorem eX5_bringUp_52 : decode mX5_bringUp.2.1 52 = .ok (.iload 5, 2) := by decide +kernel
theorem eX5_bringUp_54 : decode mX5_bringUp.2.1 54 = .ok (.istore_n 2, 1) := by decide +kernel
theorem eX5_bringUp_55 : decode mX5_bringUp.2.1 55 = .ok (.iload 4, 2) := by decide +kernel
theorem eX5_bringUp_57 : decode mX5_bringUp.2.1 57 = .ok (.istore_n 3, 1) := by decide +kernel
theorem eX5_bringUp_58 : decode mX5_bringUp.2.1 58 = .ok (.iinc 4 1, 3) := by decide +kernel
theorem eX5_bringUp_61 : decode mX5_bringUp.2.1 61 = .ok (.goto (-52), 3) := by decide +kernel
theorem eX5_bringUp_64 : decode mX5_bringUp.2.1 64 = .ok (.iload_n 3, 1) := by decide +kernel
theorem eX5_bringUp_65 : decode mX5_bringUp.2.1 65 = .ok (.ifCond .lt 35, 3) := by decide +kernel
theorem eX5_bringUp_68 : decode mX5_bringUp.2.1 68 = .ok (.iload_n 1, 1) := by decide +kernel
theorem eX5_bringUp_69 : decode mX5_bringUp.2.1 69 = .ok (.aload_n 0, 1) := by decide +kernel
theorem eX5_bringUp_70 : decode mX5_bringUp.2.1 70 = .ok (.invokevirtual 108, 3) := by decide +kernel
theorem eX5_bringUp_73 : decode mX5_bringUp.2.1 73 = .ok (.if_icmp .le 27, 3) := by decide +kernel
theorem eX5_bringUp_76 : decode mX5_bringUp.2.1 76 = .ok (.aload_n 0, 1) := by decide +kernel
theorem eX5_bringUp_77 : decode mX5_bringUp.2.1 77 = .ok (.getfield 21, 3) := by decide +kernel
theorem eX5_bringUp_80 : decode mX5_bringUp.2.1 80 = .ok (.iload_n 3, 1) := by decide +kernel
theorem eX5_bringUp_81 : decode mX5_bringUp.2.1 81 = .ok (.iconst 2, 1) := by decide +kernel
theorem eX5_bringUp_82 : decode mX5_bringUp.2.1 82 = .ok (.iastore, 1) := by decide +kernel
theorem eX5_bringUp_83 : decode mX5_bringUp.2.1 83 = .ok (.aload_n 0, 1) := by decide +kernel
theorem eX5_bringUp_84 : decode mX5_bringUp.2.1 84 = .ok (.getfield 27, 3) := by decide +kernel
theorem eX5_bringUp_87 : decode mX5_bringUp.2.1 87 = .ok (.iload_n 3, 1) := by decide +kernel
theorem eX5_bringUp_88 : decode mX5_bringUp.2.1 88 = .ok (.aload_n 0, 1) := by decide +kernel
theorem eX5_bringUp_89 : decode mX5_bringUp.2.1 89 = .ok (.getfield 59, 3) := by decide +kernel
theorem eX5_bringUp_92 : decode mX5_bringUp.2.1 92 = .ok (.iconst 3, 1) := by decide +kernel
theorem eX5_bringUp_93 : decode mX5_bringUp.2.1 93 = .ok (.iload_n 3, 1) := by decide +kernel
theorem eX5_bringUp_94 : decode mX5_bringUp.2.1 94 = .ok (.imul, 1) := by decide +kernel
theorem eX5_bringUp_95 : decode mX5_bringUp.2.1 95 = .ok (.iadd, 1) := by decide +kernel
theorem eX5_bringUp_96 : decode mX5_bringUp.2.1 96 = .ok (.bipush 12, 2) := by decide +kernel
theorem eX5_bringUp_98 : decode mX5_bringUp.2.1 98 = .ok (.irem, 1) := by decide +kernel
theorem eX5_bringUp_99 : decode mX5_bringUp.2.1 99 = .ok (.iastore, 1) := by decide +kernel
theorem eX5_bringUp_100 : decode mX5_bringUp.2.1 100 = .ok (.return_, 1) := by decide +kernel
theorem lp_X5_bringUp (hg : gOk g m t) (hd : 3 ≤ d) {h0 : Hp} (hT : ∀ h' o4 o5, WF F h' w g o → Same w 10 h0 h' → AW l G mX5_bringUp d 0 0 Q 0 0 h' [some (.ref w), some (.int (sLoads F g m t m)), some (.int (sHv F g m t m).2), some (.int (sHv F g m t m).1), o4, o5] [] 64) : ∀ (j i : Nat) (y x1 x2 x3 : Int32) (o5 : Option Value) (h : Hp), j = m - i → i ≤ m → y = nI i → x1 = sLoads F g m t i → x2 = (sHv F g m t i).2 → x3 = (sHv F g m t i).1 → WF F h w g o → Same w 10 h0 h → AW l G mX5_bringUp d 0 0 Q 0 0 h [some (.ref w), some (.int x1), some (.int x2), some (.int x3), some (.int y), o5] [] 9 := by
  have hgg := hg
  obtain ⟨hm, hm6, ht, ht2, hgq⟩ := hgg
  intro j
  induction j using Nat.strongRecOn with
  | _ j ih =>
    intro i y x1 x2 x3 o5 h hj hi hy hx1 hx2 hx3 hW hs
    subst hy hx1 hx2 hx3
    refine aw_iload (pc' := 11) eX5_bringUp_9 rfl rfl ?_
    refine aw_aload_n (pc' := 12) eX5_bringUp_11 rfl rfl trivial ?_
    refine aw_Fint (pc' := 15) (kf := 10) hW eX5_bringUp_12 rfl (by decide) q115 ?_
    refine aw_icmp_ge (pc' := 18) (tgt := 64) eX5_bringUp_15 rfl (by decide) (fun c_15 => ?_) (fun c_15 => ?_)
    · rw [gsc10, hm] at c_15
      have c9 := ge_nI (by omega) (by omega) c_15
      obtain rfl : i = m := by omega
      exact hT _ _ _ hW hs
    · rw [gsc10, hm] at c_15
      have c9 := nge_nI (by omega) (by omega) c_15
      refine aw_aload_n (pc' := 19) eX5_bringUp_18 rfl rfl trivial ?_
      refine aw_Fref (pc' := 22) (kf := 4) hW eX5_bringUp_19 rfl (by decide) q104 ?_
      refine aw_iload (pc' := 24) eX5_bringUp_22 rfl rfl ?_
      refine aw_Fld (pc' := 25) 4 3 i hW eX5_bringUp_24 rfl (by decide) rfl (show vp_in _ 6 from vp_in_nI (by omega) (by omega)) (nI_clamp (by omega)) ?_
      refine aw_iconst (pc' := 26) (v := 1) eX5_bringUp_25 rfl (by decide) ?_
      refine aw_icmp_ne (pc' := 29) (tgt := 58) eX5_bringUp_26 rfl (by decide) (fun c_26 => ?_) (fun c_26 => ?_)
      · refine aw_iinc (pc' := 61) eX5_bringUp_58 rfl rfl rfl (by decide) ?_
        dsimp only [zst, zst2, zcut]
        refine aw_goto eX5_bringUp_61 (by decide) (tgt := 9) ?_
        have e2 : sLoads F g m t (i + 1) = sLoads F g m t i + (if g (10 * i + 3) = 1 then lod F g m t i else 0) := rfl
        rw [if_neg c_26, Int32.add_zero] at e2
        have e : sHv F g m t (i + 1) = sHv F g m t i := if_neg (fun z => c_26 z.1)
        exact ih (m - (i + 1)) (by omega) (i + 1) _ _ _ _ _ _ rfl (by omega) (nI_inc i) (by rw [e2]) (by rw [e]) (by rw [e]) hW hs
      · refine aw_aload_n (pc' := 30) eX5_bringUp_29 rfl rfl trivial ?_
        refine aw_iload (pc' := 32) eX5_bringUp_30 rfl rfl ?_
        refine aw_callv (pc' := 35) (nn := 1) (c_X5_load (d := d - 1) hW hg (i := i) (by omega) (by omega)) eX5_bringUp_32 rfl ⟨q354, q312, q56⟩ q310 q311 ⟨rfl, by decide +kernel, by decide +kernel, by decide +kernel⟩ rfl hW.ob rfl ⟨by omega, by decide⟩ ⟨by omega, by omega⟩ rfl (Nat.le_of_ble_eq_true rfl) (fun v3 h4 hq5 => ?_)
        obtain ⟨rfl, hW1, hs2⟩ := hq5
        dsimp only [Option.toList, List.cons_append, List.nil_append]
        refine aw_istore (pc' := 37) eX5_bringUp_35 rfl (by decide) ?_
        dsimp only [zst, zst2, zcut]
        refine aw_iload_n (pc' := 38) eX5_bringUp_37 rfl rfl ?_
        refine aw_iload (pc' := 40) eX5_bringUp_38 rfl rfl ?_
        refine aw_iadd (pc' := 41) eX5_bringUp_40 rfl ?_
        refine aw_istore_n (pc' := 42) eX5_bringUp_41 rfl (by decide) ?_
        dsimp only [zst, zst2, zcut]
        refine aw_iload_n (pc' := 43) eX5_bringUp_42 rfl rfl ?_
        refine aw_if_lt (pc' := 46) (tgt := 52) eX5_bringUp_43 rfl (by decide) (fun c_43 => ?_) (fun c_43 => ?_)
        · refine aw_iload (pc' := 54) eX5_bringUp_52 rfl rfl ?_
          refine aw_istore_n (pc' := 55) eX5_bringUp_54 rfl (by decide) ?_
          dsimp only [zst, zst2, zcut]
          refine aw_iload (pc' := 57) eX5_bringUp_55 rfl rfl ?_
          refine aw_istore_n (pc' := 58) eX5_bringUp_57 rfl (by decide) ?_
          dsimp only [zst, zst2, zcut]
          refine aw_iinc (pc' := 61) eX5_bringUp_58 rfl rfl rfl (by decide) ?_
          dsimp only [zst, zst2, zcut]
          refine aw_goto eX5_bringUp_61 (by decide) (tgt := 9) ?_
          have e2 : sLoads F g m t (i + 1) = sLoads F g m t i + (if g (10 * i + 3) = 1 then lod F g m t i else 0) := rfl
          rw [if_pos c_26] at e2
          have e : sHv F g m t (i + 1) = (nI i, lod F g m t i) := if_pos ⟨c_26, Or.inl ((sHv_neg (by omega)).mp c_43)⟩
          exact ih (m - (i + 1)) (by omega) (i + 1) _ _ _ _ _ _ rfl (by omega) (nI_inc i) (by rw [e2]) (by rw [e]) (by rw [e]) hW1 (hs.tr hs2)
        · refine aw_iload (pc' := 48) eX5_bringUp_46 rfl rfl ?_
          refine aw_iload_n (pc' := 49) eX5_bringUp_48 rfl rfl ?_
          refine aw_icmp_le (pc' := 52) (tgt := 58) eX5_bringUp_49 rfl (by decide) (fun c_49 => ?_) (fun c_49 => ?_)
          · refine aw_iinc (pc' := 61) eX5_bringUp_58 rfl rfl rfl (by decide) ?_
            dsimp only [zst, zst2, zcut]
            refine aw_goto eX5_bringUp_61 (by decide) (tgt := 9) ?_
            have e2 : sLoads F g m t (i + 1) = sLoads F g m t i + (if g (10 * i + 3) = 1 then lod F g m t i else 0) := rfl
            rw [if_pos c_26] at e2
            have e : sHv F g m t (i + 1) = sHv F g m t i := if_neg (fun z => z.2.elim (fun y => c_43 ((sHv_neg (by omega)).mpr y)) (fun y => absurd y (Int32.not_lt.mpr c_49)))
            exact ih (m - (i + 1)) (by omega) (i + 1) _ _ _ _ _ _ rfl (by omega) (nI_inc i) (by rw [e2]) (by rw [e]) (by rw [e]) hW1 (hs.tr hs2)
          · refine aw_iload (pc' := 54) eX5_bringUp_52 rfl rfl ?_
            refine aw_istore_n (pc' := 55) eX5_bringUp_54 rfl (by decide) ?_
            dsimp only [zst, zst2, zcut]
            refine aw_iload (pc' := 57) eX5_bringUp_55 rfl rfl ?_
            refine aw_istore_n (pc' := 58) eX5_bringUp_57 rfl (by decide) ?_
            dsimp only [zst, zst2, zcut]
            refine aw_iinc (pc' := 61) eX5_bringUp_58 rfl rfl rfl (by decide) ?_
            dsimp only [zst, zst2, zcut]
            refine aw_goto eX5_bringUp_61 (by decide) (tgt := 9) ?_
            have e2 : sLoads F g m t (i + 1) = sLoads F g m t i + (if g (10 * i + 3) = 1 then lod F g m t i else 0) := rfl
            rw [if_pos c_26] at e2
            have e : sHv F g m t (i + 1) = (nI i, lod F g m t i) := if_pos ⟨c_26, Or.inr (Int32.not_le.mp c_49)⟩
            exact ih (m - (i + 1)) (by omega) (i + 1) _ _ _ _ _ _ rfl (by omega) (nI_inc i) (by rw [e2]) (by rw [e]) (by rw [e]) hW1 (hs.tr hs2)
theorem c_X5_bringUp (hW : WF F h w g o) (hg : gOk g m t) (hd : 3 ≤ d) : Ct l G mX5_bringUp yX5_bringUp d 0 0 [.ref w] h (fun r h' => r = none ∧ WF F h' w (sBring F g m t) o ∧ Same w 10 h h') := by
  refine ct_of (lv := [some (.ref w), none, none, none, none, none]) (by decide +kernel) rfl (fun z => by cases z) (fun _ => rfl) (fun _ => Nat.le_of_ble_eq_true rfl) ?_
  have hgg := hg
  obtain ⟨hm, hm6, ht, ht2, hgq⟩ := hgg
  refine aw_iconst (pc' := 1) (v := 0) eX5_bringUp_0 rfl (by decide) ?_
  refine aw_istore_n (pc' := 2) eX5_bringUp_1 rfl (by decide) ?_
  dsimp only [zst, zst2, zcut]
  refine aw_iconst (pc' := 3) (v := 0) eX5_bringUp_2 rfl (by decide) ?_
  refine aw_istore_n (pc' := 4) eX5_bringUp_3 rfl (by decide) ?_
  dsimp only [zst, zst2, zcut]
  refine aw_iconst (pc' := 5) (v := -1) eX5_bringUp_4 rfl (by decide) ?_
  refine aw_istore_n (pc' := 6) eX5_bringUp_5 rfl (by decide) ?_
  dsimp only [zst, zst2, zcut]
  refine aw_iconst (pc' := 7) (v := 0) eX5_bringUp_6 rfl (by decide) ?_
  refine aw_istore (pc' := 9) eX5_bringUp_7 rfl (by decide) ?_
  dsimp only [zst, zst2, zcut]
  refine lp_X5_bringUp hg (by omega) (fun h' o4 o5 hW9 hs9 => ?_) m 0 _ _ _ _ _ _ (by omega) (by omega) rfl rfl rfl rfl hW Same.rf
  refine aw_iload_n (pc' := 65) eX5_bringUp_64 rfl rfl ?_
  refine aw_if_lt (pc' := 68) (tgt := 100) eX5_bringUp_65 rfl (by decide) (fun c_65 => ?_) (fun c_65 => ?_)
  · refine aw_ret (v := none) eX5_bringUp_100 rfl (by omega) (by omega) rfl ?_
    exact ⟨rfl, hW9.eq (by rw [sBring, if_neg (fun z => z.2 ((sHv_neg hm6).mp c_65))]), hs9⟩
  · refine aw_iload_n (pc' := 69) eX5_bringUp_68 rfl rfl ?_
    refine aw_aload_n (pc' := 70) eX5_bringUp_69 rfl rfl trivial ?_
    refine aw_callv (pc' := 73) (nn := 0) (c_X5_room (d := d - 1) hW9 (by omega)) eX5_bringUp_70 rfl ⟨q355, q358, q56⟩ q356 q357 ⟨rfl, by decide +kernel, by decide +kernel, by decide +kernel⟩ rfl hW9.ob rfl ⟨by omega, by decide⟩ ⟨by omega, by omega⟩ rfl (Nat.le_of_ble_eq_true rfl) (fun v1 h2 hq3 => ?_)
    obtain ⟨rfl, rfl⟩ := hq3
    dsimp only [Option.toList, List.cons_append, List.nil_append]
    refine aw_icmp_le (pc' := 76) (tgt := 100) eX5_bringUp_73 rfl (by decide) (fun c_73 => ?_) (fun c_73 => ?_)
    · refine aw_ret (v := none) eX5_bringUp_100 rfl (by omega) (by omega) rfl ?_
      exact ⟨rfl, hW9.eq (by rw [sBring, if_neg (fun z => absurd z.1 (Int32.not_lt.mpr c_73))]), hs9⟩
    · have c0 : (sHv F g m t m).1 ≠ -1 := fun z => c_65 ((sHv_neg hm6).mpr z)
      obtain ⟨b, hb, eb⟩ := (sHv_or F g m t m).resolve_left c0
      have eS : sBring F g m t = upd (upd g (10 * b + 3) 2) (10 * b + 5) (jr (nI t + 3 * nI b) 12) := by
        rw [sBring, if_pos ⟨Int32.not_le.mp c_73, c0⟩, eb, nI_clamp (by omega)]
      rw [eb]
      refine aw_aload_n (pc' := 77) eX5_bringUp_76 rfl rfl trivial ?_
      refine aw_Fref (pc' := 80) (kf := 4) hW9 eX5_bringUp_77 rfl (by decide) q104 ?_
      refine aw_iload_n (pc' := 81) eX5_bringUp_80 rfl rfl ?_
      refine aw_iconst (pc' := 82) (v := 2) eX5_bringUp_81 rfl (by decide) ?_
      refine aw_Fst (pc' := 83) 4 3 b hW9 eX5_bringUp_82 rfl (by decide) rfl (show vp_in _ 6 from vp_in_nI (by omega) (by omega)) (nI_clamp (by omega)) (fun h6 hW4 hs5 => ?_)
      have hT7 := hs9.tr hs5
      refine aw_aload_n (pc' := 84) eX5_bringUp_83 rfl rfl trivial ?_
      refine aw_Fref (pc' := 87) (kf := 6) hW4 eX5_bringUp_84 rfl (by decide) q108 ?_
      refine aw_iload_n (pc' := 88) eX5_bringUp_87 rfl rfl ?_
      refine aw_aload_n (pc' := 89) eX5_bringUp_88 rfl rfl trivial ?_
      refine aw_Fint (pc' := 92) (kf := 13) hW4 eX5_bringUp_89 rfl (by decide) q121 ?_
      rw [gsc13, upd_ne (by omega), ht]
      refine aw_iconst (pc' := 93) (v := 3) eX5_bringUp_92 rfl (by decide) ?_
      refine aw_iload_n (pc' := 94) eX5_bringUp_93 rfl rfl ?_
      refine aw_imul (pc' := 95) eX5_bringUp_94 rfl ?_
      refine aw_iadd (pc' := 96) eX5_bringUp_95 rfl ?_
      refine aw_bipush (pc' := 98) (v := 12) eX5_bringUp_96 rfl (by decide) ?_
      refine aw_irem (pc' := 99) eX5_bringUp_98 rfl (by decide) ?_
      refine aw_Fst (pc' := 100) 6 5 b hW4 eX5_bringUp_99 rfl (by decide) rfl (show vp_in _ 6 from vp_in_nI (by omega) (by omega)) (nI_clamp (by omega)) (fun h10 hW8 hs9 => ?_)
      have hT11 := hT7.tr hs9
      refine aw_ret (v := none) eX5_bringUp_100 rfl (by omega) (by omega) rfl ?_
      exact ⟨rfl, (hW8).eq eS.symm, hT11⟩
abbrev mX5_drift : MT := (RX5, cX5_drift, 3, none, false)
theorem eX5_drift_0 : decode mX5_drift.2.1 0 = .ok (.aload_n 0, 1) := by decide +kernel
theorem eX5_drift_1 : decode mX5_drift.2.1 1 = .ok (.getfield 33, 3) := by decide +kernel
theorem eX5_drift_4 : decode mX5_drift.2.1 4 = .ok (.aload_n 0, 1) := by decide +kernel
theorem eX5_drift_5 : decode mX5_drift.2.1 5 = .ok (.getfield 59, 3) := by decide +kernel
theorem eX5_drift_8 : decode mX5_drift.2.1 8 = .ok (.iconst 4, 1) := by decide +kernel
theorem eX5_drift_9 : decode mX5_drift.2.1 9 = .ok (.irem, 1) := by decide +kernel
theorem eX5_drift_10 : decode mX5_drift.2.1 10 = .ok (.iaload, 1) := by decide +kernel
theorem eX5_drift_11 : decode mX5_drift.2.1 11 = .ok (.istore_n 1, 1) := by decide +kernel
theorem eX5_drift_12 : decode mX5_drift.2.1 12 = .ok (.iconst 0, 1) := by decide +kernel
theorem eX5_drift_13 : decode mX5_drift.2.1 13 = .ok (.istore_n 2, 1) := by decide +kernel
theorem eX5_drift_14 : decode mX5_drift.2.1 14 = .ok (.iload_n 2, 1) := by decide +kernel
theorem eX5_drift_15 : decode mX5_drift.2.1 15 = .ok (.aload_n 0, 1) := by decide +kernel
theorem eX5_drift_16 : decode mX5_drift.2.1 16 = .ok (.getfield 49, 3) := by decide +kernel
theorem eX5_drift_19 : decode mX5_drift.2.1 19 = .ok (.if_icmp .ge 60, 3) := by decide +kernel
theorem eX5_drift_22 : decode mX5_drift.2.1 22 = .ok (.aload_n 0, 1) := by decide +kernel
theorem eX5_drift_23 : decode mX5_drift.2.1 23 = .ok (.getfield 21, 3) := by decide +kernel
theorem eX5_drift_26 : decode mX5_drift.2.1 26 = .ok (.iload_n 2, 1) := by decide +kernel
theorem eX5_drift_27 : decode mX5_drift.2.1 27 = .ok (.iaload, 1) := by decide +kernel
theorem eX5_drift_28 : decode mX5_drift.2.1 28 = .ok (.iconst 2, 1) := by decide +kernel
theorem eX5_drift_29 : decode mX5_drift.2.1 29 = .ok (.if_icmp .ne 44, 3) := by decide +kernel
theorem eX5_drift_32 : decode mX5_drift.2.1 32 = .ok (.aload_n 0, 1) := by decide +kernel
theorem eX5_drift_33 : decode mX5_drift.2.1 33 = .ok (.getfield 27, 3) := by decide +kernel
theorem eX5_drift_36 : decode mX5_drift.2.1 36 = .ok (.iload_n 2, 1) := by decide +kernel
theorem eX5_drift_37 : decode mX5_drift.2.1 37 = .ok (.aload_n 0, 1) := by decide +kernel
theorem eX5_drift_38 : decode mX5_drift.2.1 38 = .ok (.getfield 27, 3) := by decide +kernel
theorem eX5_drift_41 : decode mX5_drift.2.1 41 = .ok (.iload_n 2, 1) := by decide +kernel
theorem eX5_drift_42 : decode mX5_drift.2.1 42 = .ok (.iaload, 1) := by decide +kernel
theorem eX5_drift_43 : decode mX5_drift.2.1 43 = .ok (.iload_n 1, 1) := by decide +kernel
theorem eX5_drift_44 : decode mX5_drift.2.1 44 = .ok (.iadd, 1) := by decide +kernel
theorem eX5_drift_45 : decode mX5_drift.2.1 45 = .ok (.bipush 12, 2) := by decide +kernel
theorem eX5_drift_47 : decode mX5_drift.2.1 47 = .ok (.irem, 1) := by decide +kernel
theorem eX5_drift_48 : decode mX5_drift.2.1 48 = .ok (.iastore, 1) := by decide +kernel
theorem eX5_drift_49 : decode mX5_drift.2.1 49 = .ok (.aload_n 0, 1) := by decide +kernel
theorem eX5_drift_50 : decode mX5_drift.2.1 50 = .ok (.getfield 53, 3) := by decide +kernel
theorem eX5_drift_53 : decode mX5_drift.2.1 53 = .ok (.aload_n 0, 1) := by decide +kernel
theorem eX5_drift_54 : decode mX5_drift.2.1 54 = .ok (.getfield 27, 3) := by decide +kernel
theorem eX5_drift_57 : decode mX5_drift.2.1 57 = .ok (.iload_n 2, 1) := by decide +kernel
theorem eX5_drift_58 : decode mX5_drift.2.1 58 = .ok (.iaload, 1) := by decide +kernel
theorem eX5_drift_59 : decode mX5_drift.2.1 59 = .ok (.ishr, 1) := by decide +kernel
theorem eX5_drift_60 : decode mX5_drift.2.1 60 = .ok (.iconst 1, 1) := by decide +kernel
theorem eX5_drift_61 : decode mX5_drift.2.1 61 = .ok (.iand, 1) := by decide +kernel
theorem eX5_drift_62 : decode mX5_drift.2.1 62 = .ok (.iconst 1, 1) := by decide +kernel
theorem eX5_drift_63 : decode mX5_drift.2.1 63 = .ok (.if_icmp .ne 10, 3) := by decide +kernel
theorem eX5_drift_66 : decode mX5_drift.2.1 66 = .ok (.aload_n 0, 1) := by decide +kernel
theorem eX5_drift_67 : decode mX5_drift.2.1 67 = .ok (.getfield 21, 3) := by decide +kernel
theorem eX5_drift_70 : decode mX5_drift.2.1 70 = .ok (.iload_n 2, 1) := by decide +kernel
theorem eX5_drift_71 : decode mX5_drift.2.1 71 = .ok (.iconst 3, 1) := by decide +kernel
theorem eX5_drift_72 : decode mX5_drift.2.1 72 = .ok (.iastore, 1) := by decide +kernel
theorem eX5_drift_73 : decode mX5_drift.2.1 73 = .ok (.iinc 2 1, 3) := by decide +kernel
theorem eX5_drift_76 : decode mX5_drift.2.1 76 = .ok (.goto (-62), 3) := by decide +kernel
theorem eX5_drift_79 : decode mX5_drift.2.1 79 = .ok (.return_, 1) := by decide +kernel
theorem upd_self {f : Nat → Int32} {j : Nat} {x : Int32} (e : f j = x) : upd f j x = f := by
  rw [← e]; exact mg_id' f j
theorem lp_X5_drift (hm : g 60 = nI m) (hm6 : m ≤ 6) {cur : Int32} {h0 : Hp} (hQ : ∀ h', WF F h' w (cDr cur g m) o → Same w 10 h0 h' → Q none h') : ∀ (j i : Nat) (y : Int32) (h : Hp), j = m - i → i ≤ m → y = nI i → WF F h w (cDr cur g i) o → Same w 10 h0 h → AW l G mX5_drift d 0 0 Q 0 0 h [some (.ref w), some (.int cur), some (.int y)] [] 14 := by
  intro j
  induction j using Nat.strongRecOn with
  | _ j ih =>
    intro i y h hj hi hy hW hs
    subst hy
    have e60 : cDr cur g i 60 = nI m := (cDr_hi (by omega) i (by omega)).trans hm
    refine aw_iload_n (pc' := 15) eX5_drift_14 rfl rfl ?_
    refine aw_aload_n (pc' := 16) eX5_drift_15 rfl rfl trivial ?_
    refine aw_Fint (pc' := 19) (kf := 10) hW eX5_drift_16 rfl (by decide) q115 ?_
    refine aw_icmp_ge (pc' := 22) (tgt := 79) eX5_drift_19 rfl (by decide) (fun c_19 => ?_) (fun c_19 => ?_)
    · rw [gsc10, e60] at c_19
      have c9 := ge_nI (by omega) (by omega) c_19
      obtain rfl : i = m := by omega
      refine aw_ret (v := none) eX5_drift_79 rfl (by omega) (by omega) rfl ?_
      exact hQ _ hW hs
    · rw [gsc10, e60] at c_19
      have c9 := nge_nI (by omega) (by omega) c_19
      refine aw_aload_n (pc' := 23) eX5_drift_22 rfl rfl trivial ?_
      refine aw_Fref (pc' := 26) (kf := 4) hW eX5_drift_23 rfl (by decide) q104 ?_
      refine aw_iload_n (pc' := 27) eX5_drift_26 rfl rfl ?_
      refine aw_Fld (pc' := 28) 4 3 i hW eX5_drift_27 rfl (by decide) rfl (show vp_in _ 6 from vp_in_nI (by omega) (by omega)) (nI_clamp (by omega)) ?_
      refine aw_iconst (pc' := 29) (v := 2) eX5_drift_28 rfl (by decide) ?_
      refine aw_icmp_ne (pc' := 32) (tgt := 73) eX5_drift_29 rfl (by decide) (fun c_29 => ?_) (fun c_29 => ?_)
      · refine aw_iinc (pc' := 76) eX5_drift_73 rfl rfl rfl (by decide) ?_
        dsimp only [zst, zst2, zcut]
        refine aw_goto eX5_drift_76 (by decide) (tgt := 14) ?_
        exact ih (m - (i + 1)) (by omega) (i + 1) _ _ rfl (by omega) (nI_inc i) ((hW).eq (by rw [cDr, sD1, if_neg c_29])) hs
      · refine aw_aload_n (pc' := 33) eX5_drift_32 rfl rfl trivial ?_
        refine aw_Fref (pc' := 36) (kf := 6) hW eX5_drift_33 rfl (by decide) q108 ?_
        refine aw_iload_n (pc' := 37) eX5_drift_36 rfl rfl ?_
        refine aw_aload_n (pc' := 38) eX5_drift_37 rfl rfl trivial ?_
        refine aw_Fref (pc' := 41) (kf := 6) hW eX5_drift_38 rfl (by decide) q108 ?_
        refine aw_iload_n (pc' := 42) eX5_drift_41 rfl rfl ?_
        refine aw_Fld (pc' := 43) 6 5 i hW eX5_drift_42 rfl (by decide) rfl (show vp_in _ 6 from vp_in_nI (by omega) (by omega)) (nI_clamp (by omega)) ?_
        refine aw_iload_n (pc' := 44) eX5_drift_43 rfl rfl ?_
        refine aw_iadd (pc' := 45) eX5_drift_44 rfl ?_
        refine aw_bipush (pc' := 47) (v := 12) eX5_drift_45 rfl (by decide) ?_
        refine aw_irem (pc' := 48) eX5_drift_47 rfl (by decide) ?_
        refine aw_Fst (pc' := 49) 6 5 i hW eX5_drift_48 rfl (by decide) rfl (show vp_in _ 6 from vp_in_nI (by omega) (by omega)) (nI_clamp (by omega)) (fun h3 hW1 hs2 => ?_)
        refine aw_aload_n (pc' := 50) eX5_drift_49 rfl rfl trivial ?_
        refine aw_Fint (pc' := 53) (kf := 11) hW1 eX5_drift_50 rfl (by decide) q117 ?_
        refine aw_aload_n (pc' := 54) eX5_drift_53 rfl rfl trivial ?_
        refine aw_Fref (pc' := 57) (kf := 6) hW1 eX5_drift_54 rfl (by decide) q108 ?_
        refine aw_iload_n (pc' := 58) eX5_drift_57 rfl rfl ?_
        refine aw_Fld (pc' := 59) 6 5 i hW1 eX5_drift_58 rfl (by decide) rfl (show vp_in _ 6 from vp_in_nI (by omega) (by omega)) (nI_clamp (by omega)) ?_
        rw [gsc11, upd_eq, upd_ne (show 61 ≠ 10 * i + 5 by omega)]
        refine aw_ishr (pc' := 60) eX5_drift_59 rfl ?_
        refine aw_iconst (pc' := 61) (v := 1) eX5_drift_60 rfl (by decide) ?_
        refine aw_iand (pc' := 62) eX5_drift_61 rfl ?_
        refine aw_iconst (pc' := 63) (v := 1) eX5_drift_62 rfl (by decide) ?_
        refine aw_icmp_ne (pc' := 66) (tgt := 73) eX5_drift_63 rfl (by decide) (fun c_63 => ?_) (fun c_63 => ?_)
        · refine aw_iinc (pc' := 76) eX5_drift_73 rfl rfl rfl (by decide) ?_
          dsimp only [zst, zst2, zcut]
          refine aw_goto eX5_drift_76 (by decide) (tgt := 14) ?_
          exact ih (m - (i + 1)) (by omega) (i + 1) _ _ rfl (by omega) (nI_inc i) ((hW1).eq (by rw [cDr, sD1, if_pos c_29, if_neg (show ¬ (cDr cur g i 61 >>> (jr (cDr cur g i (10 * i + 5) + cur) 12 &&& 31) &&& 1 = 1) from c_63), upd_self (f := upd _ _ _) (j := 10 * i + 3) (by rw [upd_ne (by omega)]; exact c_29)]; rfl)) (hs.tr hs2)
        · refine aw_aload_n (pc' := 67) eX5_drift_66 rfl rfl trivial ?_
          refine aw_Fref (pc' := 70) (kf := 4) hW1 eX5_drift_67 rfl (by decide) q104 ?_
          refine aw_iload_n (pc' := 71) eX5_drift_70 rfl rfl ?_
          refine aw_iconst (pc' := 72) (v := 3) eX5_drift_71 rfl (by decide) ?_
          refine aw_Fst (pc' := 73) 4 3 i hW1 eX5_drift_72 rfl (by decide) rfl (show vp_in _ 6 from vp_in_nI (by omega) (by omega)) (nI_clamp (by omega)) (fun h6 hW4 hs5 => ?_)
          have hT7 := hs2.tr hs5
          refine aw_iinc (pc' := 76) eX5_drift_73 rfl rfl rfl (by decide) ?_
          dsimp only [zst, zst2, zcut]
          refine aw_goto eX5_drift_76 (by decide) (tgt := 14) ?_
          exact ih (m - (i + 1)) (by omega) (i + 1) _ _ rfl (by omega) (nI_inc i) ((hW4).eq (by rw [cDr, sD1, if_pos c_29, if_pos (show cDr cur g i 61 >>> (jr (cDr cur g i (10 * i + 5) + cur) 12 &&& 31) &&& 1 = 1 from c_63)]; rfl)) (hs.tr hT7)
theorem c_X5_drift (hW : WF F h w g o) (hg : gOk g m t) (hd : 0 ≤ d) : Ct l G mX5_drift yX5_drift d 0 0 [.ref w] h (fun r h' => r = none ∧ WF F h' w (cDr (g (63 + t % 4)) g m) o ∧ Same w 10 h h') := by
  refine ct_of (lv := [some (.ref w), none, none]) (by decide +kernel) rfl (fun z => by cases z) (fun _ => rfl) (fun _ => Nat.le_of_ble_eq_true rfl) ?_
  have hgg := hg
  obtain ⟨hm, hm6, ht, ht2, hgq⟩ := hgg
  have e4 : nI t - nI t / 4 * 4 = nI (t % 4) := pk_rem (d := 4) (by omega) (by omega) (by omega)
  refine aw_aload_n (pc' := 1) eX5_drift_0 rfl rfl trivial ?_
  refine aw_Fref (pc' := 4) (kf := 8) hW eX5_drift_1 rfl (by decide) q112 ?_
  refine aw_aload_n (pc' := 5) eX5_drift_4 rfl rfl trivial ?_
  refine aw_Fint (pc' := 8) (kf := 13) hW eX5_drift_5 rfl (by decide) q121 ?_
  refine aw_iconst (pc' := 9) (v := 4) eX5_drift_8 rfl (by decide) ?_
  refine aw_irem (pc' := 10) eX5_drift_9 rfl (by decide) ?_
  rw [gsc13, ht, e4]
  refine aw_Fld8 (pc' := 11) (t % 4) hW eX5_drift_10 rfl (show vp_in _ 4 from vp_in_nI (by omega) (by omega)) (nI_clamp (by omega)) ?_
  refine aw_istore_n (pc' := 12) eX5_drift_11 rfl (by decide) ?_
  dsimp only [zst, zst2, zcut]
  refine aw_iconst (pc' := 13) (v := 0) eX5_drift_12 rfl (by decide) ?_
  refine aw_istore_n (pc' := 14) eX5_drift_13 rfl (by decide) ?_
  dsimp only [zst, zst2, zcut]
  exact lp_X5_drift hm hm6 (fun h' a b => ⟨rfl, a, b⟩) m 0 _ _ (by omega) (by omega) rfl hW Same.rf
abbrev mX5_dayGoes : MT := (RX5, cX5_dayGoes, 2, none, false)
theorem eX5_dayGoes_0 : decode mX5_dayGoes.2.1 0 = .ok (.aload_n 0, 1) := by decide +kernel
theorem eX5_dayGoes_1 : decode mX5_dayGoes.2.1 1 = .ok (.invokevirtual 102, 3) := by decide +kernel
theorem eX5_dayGoes_4 : decode mX5_dayGoes.2.1 4 = .ok (.aload_n 0, 1) := by decide +kernel
theorem eX5_dayGoes_5 : decode mX5_dayGoes.2.1 5 = .ok (.invokevirtual 105, 3) := by decide +kernel
theorem eX5_dayGoes_8 : decode mX5_dayGoes.2.1 8 = .ok (.aload_n 0, 1) := by decide +kernel
theorem eX5_dayGoes_9 : decode mX5_dayGoes.2.1 9 = .ok (.aload_n 0, 1) := by decide +kernel
theorem eX5_dayGoes_10 : decode mX5_dayGoes.2.1 10 = .ok (.getfield 56, 3) := by decide +kernel
theorem eX5_dayGoes_13 : decode mX5_dayGoes.2.1 13 = .ok (.iconst 1, 1) := by decide +kernel
theorem eX5_dayGoes_14 : decode mX5_dayGoes.2.1 14 = .ok (.iadd, 1) := by decide +kernel
theorem eX5_dayGoes_15 : decode mX5_dayGoes.2.1 15 = .ok (.bipush 12, 2) := by decide +kernel
theorem eX5_dayGoes_17 : decode mX5_dayGoes.2.1 17 = .ok (.irem, 1) := by decide +kernel
theorem eX5_dayGoes_18 : decode mX5_dayGoes.2.1 18 = .ok (.putfield 56, 3) := by decide +kernel
theorem eX5_dayGoes_21 : decode mX5_dayGoes.2.1 21 = .ok (.iconst 0, 1) := by decide +kernel
theorem eX5_dayGoes_22 : decode mX5_dayGoes.2.1 22 = .ok (.istore_n 1, 1) := by decide +kernel
theorem eX5_dayGoes_23 : decode mX5_dayGoes.2.1 23 = .ok (.iload_n 1, 1) := by decide +kernel
theorem eX5_dayGoes_24 : decode mX5_dayGoes.2.1 24 = .ok (.aload_n 0, 1) := by decide +kernel
theorem eX5_dayGoes_25 : decode mX5_dayGoes.2.1 25 = .ok (.getfield 49, 3) := by decide +kernel
theorem eX5_dayGoes_28 : decode mX5_dayGoes.2.1 28 = .ok (.if_icmp .ge 72, 3) := by decide +kernel
theorem eX5_dayGoes_31 : decode mX5_dayGoes.2.1 31 = .ok (.aload_n 0, 1) := by decide +kernel
theorem eX5_dayGoes_32 : decode mX5_dayGoes.2.1 32 = .ok (.getfield 21, 3) := by decide +kernel
theorem eX5_dayGoes_35 : decode mX5_dayGoes.2.1 35 = .ok (.iload_n 1, 1) := by decide +kernel
theorem eX5_dayGoes_36 : decode mX5_dayGoes.2.1 36 = .ok (.iaload, 1) := by decide +kernel
theorem eX5_dayGoes_37 : decode mX5_dayGoes.2.1 37 = .ok (.iconst 3, 1) := by decide +kernel
theorem eX5_dayGoes_38 : decode mX5_dayGoes.2.1 38 = .ok (.if_icmp .ne 23, 3) := by decide +kernel
theorem eX5_dayGoes_41 : decode mX5_dayGoes.2.1 41 = .ok (.aload_n 0, 1) := by decide +kernel
theorem eX5_dayGoes_42 : decode mX5_dayGoes.2.1 42 = .ok (.getfield 27, 3) := by decide +kernel
theorem eX5_dayGoes_45 : decode mX5_dayGoes.2.1 45 = .ok (.iload_n 1, 1) := by decide +kernel
theorem eX5_dayGoes_46 : decode mX5_dayGoes.2.1 46 = .ok (.iaload, 1) := by decide +kernel
theorem eX5_dayGoes_47 : decode mX5_dayGoes.2.1 47 = .ok (.aload_n 0, 1) := by decide +kernel
theorem eX5_dayGoes_48 : decode mX5_dayGoes.2.1 48 = .ok (.getfield 56, 3) := by decide +kernel
theorem eX5_dayGoes_51 : decode mX5_dayGoes.2.1 51 = .ok (.if_icmp .ne 10, 3) := by decide +kernel
theorem eX5_dayGoes_54 : decode mX5_dayGoes.2.1 54 = .ok (.aload_n 0, 1) := by decide +kernel
theorem eX5_dayGoes_55 : decode mX5_dayGoes.2.1 55 = .ok (.getfield 21, 3) := by decide +kernel
theorem eX5_dayGoes_58 : decode mX5_dayGoes.2.1 58 = .ok (.iload_n 1, 1) := by decide +kernel
theorem eX5_dayGoes_59 : decode mX5_dayGoes.2.1 59 = .ok (.iconst 4, 1) := by decide +kernel
theorem eX5_dayGoes_60 : decode mX5_dayGoes.2.1 60 = .ok (.iastore, 1) := by decide +kernel
theorem eX5_dayGoes_61 : decode mX5_dayGoes.2.1 61 = .ok (.aload_n 0, 1) := by decide +kernel
theorem eX5_dayGoes_62 : decode mX5_dayGoes.2.1 62 = .ok (.getfield 21, 3) := by decide +kernel
theorem eX5_dayGoes_65 : decode mX5_dayGoes.2.1 65 = .ok (.iload_n 1, 1) := by decide +kernel
theorem eX5_dayGoes_66 : decode mX5_dayGoes.2.1 66 = .ok (.iaload, 1) := by decide +kernel
theorem eX5_dayGoes_67 : decode mX5_dayGoes.2.1 67 = .ok (.iconst 1, 1) := by decide +kernel
theorem eX5_dayGoes_68 : decode mX5_dayGoes.2.1 68 = .ok (.if_icmp .ne 26, 3) := by decide +kernel
theorem eX5_dayGoes_71 : decode mX5_dayGoes.2.1 71 = .ok (.aload_n 0, 1) := by decide +kernel
theorem eX5_dayGoes_72 : decode mX5_dayGoes.2.1 72 = .ok (.getfield 24, 3) := by decide +kernel
theorem eX5_dayGoes_75 : decode mX5_dayGoes.2.1 75 = .ok (.iload_n 1, 1) := by decide +kernel
theorem eX5_dayGoes_76 : decode mX5_dayGoes.2.1 76 = .ok (.iaload, 1) := by decide +kernel
theorem eX5_dayGoes_77 : decode mX5_dayGoes.2.1 77 = .ok (.aload_n 0, 1) := by decide +kernel
theorem eX5_dayGoes_78 : decode mX5_dayGoes.2.1 78 = .ok (.getfield 66, 3) := by decide +kernel
theorem eX5_dayGoes_81 : decode mX5_dayGoes.2.1 81 = .ok (.if_icmp .ge 13, 3) := by decide +kernel
theorem eX5_dayGoes_84 : decode mX5_dayGoes.2.1 84 = .ok (.aload_n 0, 1) := by decide +kernel
theorem eX5_dayGoes_85 : decode mX5_dayGoes.2.1 85 = .ok (.getfield 24, 3) := by decide +kernel
theorem eX5_dayGoes_88 : decode mX5_dayGoes.2.1 88 = .ok (.iload_n 1, 1) := by decide +kernel
theorem eX5_dayGoes_89 : decode mX5_dayGoes.2.1 89 = .ok (.dup2, 1) := by decide +kernel
theorem eX5_dayGoes_90 : decode mX5_dayGoes.2.1 90 = .ok (.iaload, 1) := by decide +kernel
theorem eX5_dayGoes_91 : decode mX5_dayGoes.2.1 91 = .ok (.iconst 1, 1) := by decide +kernel
theorem eX5_dayGoes_92 : decode mX5_dayGoes.2.1 92 = .ok (.iadd, 1) := by decide +kernel
theorem eX5_dayGoes_93 : decode mX5_dayGoes.2.1 93 = .ok (.iastore, 1) := by decide +kernel
theorem eX5_dayGoes_94 : decode mX5_dayGoes.2.1 94 = .ok (.iinc 1 1, 3) := by decide +kernel
theorem eX5_dayGoes_97 : decode mX5_dayGoes.2.1 97 = .ok (.goto (-74), 3) := by decide +kernel
theorem eX5_dayGoes_100 : decode mX5_dayGoes.2.1 100 = .ok (.aload_n 0, 1) := by decide +kernel
theorem eX5_dayGoes_101 : decode mX5_dayGoes.2.1 101 = .ok (.dup, 1) := by decide +kernel
theorem eX5_dayGoes_102 : decode mX5_dayGoes.2.1 102 = .ok (.getfield 59, 3) := by decide +kernel
theorem eX5_dayGoes_105 : decode mX5_dayGoes.2.1 105 = .ok (.iconst 1, 1) := by decide +kernel
theorem eX5_dayGoes_106 : decode mX5_dayGoes.2.1 106 = .ok (.iadd, 1) := by decide +kernel
theorem eX5_dayGoes_107 : decode mX5_dayGoes.2.1 107 = .ok (.putfield 59, 3) := by decide +kernel
theorem eX5_dayGoes_110 : decode mX5_dayGoes.2.1 110 = .ok (.return_, 1) := by decide +kernel
theorem cy2 {i : Nat} (hi : i < 6) {h0 : Hp} (hW : WF F h w g o) (hs : Same w 10 h0 h) (kk : ∀ h', WF F h' w (sD2 i g) o → Same w 10 h0 h' → AW l G mX5_dayGoes d 0 0 Q 0 0 h' [some (.ref w), some (.int (nI i))] [] 61) : AW l G mX5_dayGoes d 0 0 Q 0 0 h [some (.ref w), some (.int (nI i))] [] 31 := by
  refine aw_aload_n (pc' := 32) eX5_dayGoes_31 rfl rfl trivial ?_
  refine aw_Fref (pc' := 35) (kf := 4) hW eX5_dayGoes_32 rfl (by decide) q104 ?_
  refine aw_iload_n (pc' := 36) eX5_dayGoes_35 rfl rfl ?_
  refine aw_Fld (pc' := 37) 4 3 i hW eX5_dayGoes_36 rfl (by decide) rfl (show vp_in _ 6 from vp_in_nI (by omega) (by omega)) (nI_clamp (by omega)) ?_
  refine aw_iconst (pc' := 38) (v := 3) eX5_dayGoes_37 rfl (by decide) ?_
  refine aw_icmp_ne (pc' := 41) (tgt := 61) eX5_dayGoes_38 rfl (by decide) (fun c_38 => ?_) (fun c_38 => ?_)
  · refine kk _ ((hW).eq (by rw [sD2, if_neg (fun z => c_38 z.1)])) hs
  · refine aw_aload_n (pc' := 42) eX5_dayGoes_41 rfl rfl trivial ?_
    refine aw_Fref (pc' := 45) (kf := 6) hW eX5_dayGoes_42 rfl (by decide) q108 ?_
    refine aw_iload_n (pc' := 46) eX5_dayGoes_45 rfl rfl ?_
    refine aw_Fld (pc' := 47) 6 5 i hW eX5_dayGoes_46 rfl (by decide) rfl (show vp_in _ 6 from vp_in_nI (by omega) (by omega)) (nI_clamp (by omega)) ?_
    refine aw_aload_n (pc' := 48) eX5_dayGoes_47 rfl rfl trivial ?_
    refine aw_Fint (pc' := 51) (kf := 12) hW eX5_dayGoes_48 rfl (by decide) q119 ?_
    refine aw_icmp_ne (pc' := 54) (tgt := 61) eX5_dayGoes_51 rfl (by decide) (fun c_51 => ?_) (fun c_51 => ?_)
    · refine kk _ ((hW).eq (by rw [sD2, if_neg (fun z => c_51 z.2)])) hs
    · refine aw_aload_n (pc' := 55) eX5_dayGoes_54 rfl rfl trivial ?_
      refine aw_Fref (pc' := 58) (kf := 4) hW eX5_dayGoes_55 rfl (by decide) q104 ?_
      refine aw_iload_n (pc' := 59) eX5_dayGoes_58 rfl rfl ?_
      refine aw_iconst (pc' := 60) (v := 4) eX5_dayGoes_59 rfl (by decide) ?_
      refine aw_Fst (pc' := 61) 4 3 i hW eX5_dayGoes_60 rfl (by decide) rfl (show vp_in _ 6 from vp_in_nI (by omega) (by omega)) (nI_clamp (by omega)) (fun h3 hW1 hs2 => ?_)
      refine kk _ ((hW1).eq (by rw [sD2, if_pos ⟨c_38, c_51⟩])) (hs.tr hs2)
theorem cy3 {i : Nat} (hi : i < 6) {h0 : Hp} (hO : g (10 * i + 4) < o) (hW : WF F h w g o) (hs : Same w 10 h0 h) (kk : ∀ h', WF F h' w (sD3 i g) o → Same w 10 h0 h' → AW l G mX5_dayGoes d 0 0 Q 0 0 h' [some (.ref w), some (.int (nI i))] [] 94) : AW l G mX5_dayGoes d 0 0 Q 0 0 h [some (.ref w), some (.int (nI i))] [] 61 := by
  refine aw_aload_n (pc' := 62) eX5_dayGoes_61 rfl rfl trivial ?_
  refine aw_Fref (pc' := 65) (kf := 4) hW eX5_dayGoes_62 rfl (by decide) q104 ?_
  refine aw_iload_n (pc' := 66) eX5_dayGoes_65 rfl rfl ?_
  refine aw_Fld (pc' := 67) 4 3 i hW eX5_dayGoes_66 rfl (by decide) rfl (show vp_in _ 6 from vp_in_nI (by omega) (by omega)) (nI_clamp (by omega)) ?_
  refine aw_iconst (pc' := 68) (v := 1) eX5_dayGoes_67 rfl (by decide) ?_
  refine aw_icmp_ne (pc' := 71) (tgt := 94) eX5_dayGoes_68 rfl (by decide) (fun c_68 => ?_) (fun c_68 => ?_)
  · refine kk _ ((hW).eq (by rw [sD3, if_neg c_68])) hs
  · refine aw_aload_n (pc' := 72) eX5_dayGoes_71 rfl rfl trivial ?_
    refine aw_Fref (pc' := 75) (kf := 5) hW eX5_dayGoes_72 rfl (by decide) q106 ?_
    refine aw_iload_n (pc' := 76) eX5_dayGoes_75 rfl rfl ?_
    refine aw_Fld (pc' := 77) 5 4 i hW eX5_dayGoes_76 rfl (by decide) rfl (show vp_in _ 6 from vp_in_nI (by omega) (by omega)) (nI_clamp (by omega)) ?_
    refine aw_aload_n (pc' := 78) eX5_dayGoes_77 rfl rfl trivial ?_
    refine aw_Fold (pc' := 81) hW eX5_dayGoes_78 rfl q97 ?_
    refine aw_icmp_ge (pc' := 84) (tgt := 94) eX5_dayGoes_81 rfl (by decide) (fun c_81 => ?_) (fun c_81 => ?_)
    · exact absurd c_81 (Int32.not_le.mpr hO)
    · refine aw_aload_n (pc' := 85) eX5_dayGoes_84 rfl rfl trivial ?_
      refine aw_Fref (pc' := 88) (kf := 5) hW eX5_dayGoes_85 rfl (by decide) q106 ?_
      refine aw_iload_n (pc' := 89) eX5_dayGoes_88 rfl rfl ?_
      refine aw_dup2 (pc' := 90) eX5_dayGoes_89 rfl rfl rfl ?_
      refine aw_Fld (pc' := 91) 5 4 i hW eX5_dayGoes_90 rfl (by decide) rfl (show vp_in _ 6 from vp_in_nI (by omega) (by omega)) (nI_clamp (by omega)) ?_
      refine aw_iconst (pc' := 92) (v := 1) eX5_dayGoes_91 rfl (by decide) ?_
      refine aw_iadd (pc' := 93) eX5_dayGoes_92 rfl ?_
      refine aw_Fst (pc' := 94) 5 4 i hW eX5_dayGoes_93 rfl (by decide) rfl (show vp_in _ 6 from vp_in_nI (by omega) (by omega)) (nI_clamp (by omega)) (fun h3 hW1 hs2 => ?_)
      refine kk _ ((hW1).eq (by rw [sD3, if_pos c_68])) (hs.tr hs2)
theorem lp_X5_dayGoes (hm : g 60 = nI m) (hm6 : m ≤ 6) (hO : ∀ i, i < m → g (10 * i + 4) < o) {h0 : Hp} (hQ : ∀ h', WF F h' w (cFd g m) o → Same w 10 h0 h' → AW l G mX5_dayGoes d 0 0 Q 0 0 h' [some (.ref w), some (.int (nI m))] [] 100) : ∀ (j i : Nat) (y : Int32) (h : Hp), j = m - i → i ≤ m → y = nI i → WF F h w (cFd g i) o → Same w 10 h0 h → AW l G mX5_dayGoes d 0 0 Q 0 0 h [some (.ref w), some (.int y)] [] 23 := by
  intro j
  induction j using Nat.strongRecOn with
  | _ j ih =>
    intro i y h hj hi hy hW hs
    subst hy
    have e60 : cFd g i 60 = nI m := (cFd_hi (by omega) i (by omega)).trans hm
    refine aw_iload_n (pc' := 24) eX5_dayGoes_23 rfl rfl ?_
    refine aw_aload_n (pc' := 25) eX5_dayGoes_24 rfl rfl trivial ?_
    refine aw_Fint (pc' := 28) (kf := 10) hW eX5_dayGoes_25 rfl (by decide) q115 ?_
    refine aw_icmp_ge (pc' := 31) (tgt := 100) eX5_dayGoes_28 rfl (by decide) (fun c_28 => ?_) (fun c_28 => ?_)
    · rw [gsc10, e60] at c_28
      have c9 := ge_nI (by omega) (by omega) c_28
      obtain rfl : i = m := by omega
      exact hQ _ hW hs
    · rw [gsc10, e60] at c_28
      have c9 := nge_nI (by omega) (by omega) c_28
      refine cy2 (by omega) hW hs fun h1 w1 s1 => ?_
      refine cy3 (by omega) (by rw [sD2_ne (by omega), cFd_a i i (Nat.le_refl _)]; exact hO i (by omega)) w1 s1 fun h2 w2 s2 => ?_
      refine aw_iinc (pc' := 97) eX5_dayGoes_94 rfl rfl rfl (by decide) ?_
      dsimp only [zst, zst2, zcut]
      refine aw_goto eX5_dayGoes_97 (by decide) (tgt := 23) ?_
      exact ih (m - (i + 1)) (by omega) (i + 1) _ _ rfl (by omega) (nI_inc i) w2 s2
theorem c_X5_dayGoes {O : Nat} (hW : WF F h w g (nI O)) (hg : gOk g m t) (hA : gAge g m t) (hO : t < O) (hO2 : O < 2147483648) (hd : 4 ≤ d) : Ct l G mX5_dayGoes yX5_dayGoes d 0 0 [.ref w] h (fun r h' => r = none ∧ WF F h' w (sDay F m t g) (nI O) ∧ Same w 10 h h') := by
  refine ct_of (lv := [some (.ref w), none]) (by decide +kernel) rfl (fun z => by cases z) (fun _ => rfl) (fun _ => Nat.le_of_ble_eq_true rfl) ?_
  have hgg := hg
  obtain ⟨hm, hm6, ht, ht2, hgq⟩ := hgg
  refine aw_aload_n (pc' := 1) eX5_dayGoes_0 rfl rfl trivial ?_
  refine aw_callv (pc' := 4) (nn := 0) (c_X5_bringUp (d := d - 1) hW hg (by omega)) eX5_dayGoes_1 rfl ⟨q350, q353, q56⟩ q352 q4 ⟨rfl, by decide +kernel, by decide +kernel, by decide +kernel⟩ rfl hW.ob rfl ⟨by omega, by decide⟩ ⟨by omega, by omega⟩ rfl (Nat.le_of_ble_eq_true rfl) (fun v3 h4 hq5 => ?_)
  obtain ⟨rfl, hW1, hs2⟩ := hq5
  dsimp only [Option.toList, List.cons_append, List.nil_append]
  refine aw_aload_n (pc' := 5) eX5_dayGoes_4 rfl rfl trivial ?_
  refine aw_callv (pc' := 8) (nn := 0) (c_X5_drift (d := d - 1) hW1 (gOk_of hg (sBring_hi hm6 (by omega)) (sBring_hi hm6 (by omega)) (sBring_hi hm6 (by omega))) (by omega)) eX5_dayGoes_5 rfl ⟨q359, q362, q56⟩ q361 q5 ⟨rfl, by decide +kernel, by decide +kernel, by decide +kernel⟩ rfl hW1.ob rfl ⟨by omega, by decide⟩ ⟨by omega, by omega⟩ rfl (Nat.le_of_ble_eq_true rfl) (fun v8 h9 hq10 => ?_)
  obtain ⟨rfl, hW6, hs7⟩ := hq10
  have hT11 := hs2.tr hs7
  dsimp only [Option.toList, List.cons_append, List.nil_append]
  refine aw_aload_n (pc' := 9) eX5_dayGoes_8 rfl rfl trivial ?_
  refine aw_aload_n (pc' := 10) eX5_dayGoes_9 rfl rfl trivial ?_
  refine aw_Fint (pc' := 13) (kf := 12) hW6 eX5_dayGoes_10 rfl (by decide) q119 ?_
  refine aw_iconst (pc' := 14) (v := 1) eX5_dayGoes_13 rfl (by decide) ?_
  refine aw_iadd (pc' := 15) eX5_dayGoes_14 rfl ?_
  refine aw_bipush (pc' := 17) (v := 12) eX5_dayGoes_15 rfl (by decide) ?_
  refine aw_irem (pc' := 18) eX5_dayGoes_17 rfl (by decide) ?_
  refine aw_Fput (pc' := 21) 12 hW6 eX5_dayGoes_18 rfl (by decide) q119 (fun h14 hW12 hs13 => ?_)
  have hT15 := hT11.tr hs13
  refine aw_iconst (pc' := 22) (v := 0) eX5_dayGoes_21 rfl (by decide) ?_
  refine aw_istore_n (pc' := 23) eX5_dayGoes_22 rfl (by decide) ?_
  dsimp only [zst, zst2, zcut]
  have hO9 : ∀ i, i < m → (sFi (cDr (sBring F g m t (63 + t % 4)) (sBring F g m t) m)) (10 * i + 4) < nI O := fun i hi => by
    obtain ⟨a, ha, e⟩ := hA i hi
    rw [sFi, upd_ne (by omega), cDr_a, sBring_a hm6, e]
    exact (nI_ltI (by omega) (by omega)).mpr (by omega)
  have e63 : sBring F g m t (63 + t % 4) = g (63 + t % 4) := sBring_hi hm6 (by omega)
  refine lp_X5_dayGoes (g := sFi (cDr (sBring F g m t (63 + t % 4)) (sBring F g m t) m)) (by rw [sFi, upd_ne (by decide), cDr_hi (by omega) m hm6, sBring_hi hm6 (by omega)]; exact hm) hm6 hO9 (fun h9 hW9 hs9 => ?_) m 0 _ _ (by omega) (by omega) rfl hW12 hT15
  refine aw_aload_n (pc' := 101) eX5_dayGoes_100 rfl rfl trivial ?_
  refine aw_dup (pc' := 102) eX5_dayGoes_101 rfl rfl ?_
  refine aw_Fint (pc' := 105) (kf := 13) hW9 eX5_dayGoes_102 rfl (by decide) q121 ?_
  refine aw_iconst (pc' := 106) (v := 1) eX5_dayGoes_105 rfl (by decide) ?_
  refine aw_iadd (pc' := 107) eX5_dayGoes_106 rfl ?_
  refine aw_Fput (pc' := 110) 13 hW9 eX5_dayGoes_107 rfl (by decide) q121 (fun h3 hW1 hs2 => ?_)
  have hT4 := hs9.tr hs2
  refine aw_ret (v := none) eX5_dayGoes_110 rfl (by omega) (by omega) rfl ?_
  refine ⟨rfl, (hW1).eq ?_, hT4⟩
  have e67 : cFd (sFi (cDr (sBring F g m t (63 + t % 4)) (sBring F g m t) m)) m 67 = nI t := by rw [cFd_hi (by omega) m hm6, sFi, upd_ne (by decide), cDr_hi (by omega) m hm6, sBring_hi hm6 (by omega), ht]
  rw [sDay_eq hm6, gsc13, e67, e63]
  congr 1
  exact nI_1 t
abbrev mX5_daysGo : MT := (RX5, cX5_daysGo, 3, none, false)
theorem eX5_daysGo_0 : decode mX5_daysGo.2.1 0 = .ok (.iconst 0, 1) := by decide +kernel
theorem eX5_daysGo_1 : decode mX5_daysGo.2.1 1 = .ok (.istore_n 2, 1) := by decide +kernel
theorem eX5_daysGo_2 : decode mX5_daysGo.2.1 2 = .ok (.iload_n 2, 1) := by decide +kernel
theorem eX5_daysGo_3 : decode mX5_daysGo.2.1 3 = .ok (.iload_n 1, 1) := by decide +kernel
theorem eX5_daysGo_4 : decode mX5_daysGo.2.1 4 = .ok (.if_icmp .ge 13, 3) := by decide +kernel
theorem eX5_daysGo_7 : decode mX5_daysGo.2.1 7 = .ok (.aload_n 0, 1) := by decide +kernel
theorem eX5_daysGo_8 : decode mX5_daysGo.2.1 8 = .ok (.invokevirtual 99, 3) := by decide +kernel
theorem eX5_daysGo_11 : decode mX5_daysGo.2.1 11 = .ok (.iinc 2 1, 3) := by decide +kernel
theorem eX5_daysGo_14 : decode mX5_daysGo.2.1 14 = .ok (.goto (-12), 3) := by decide +kernel
theorem eX5_daysGo_17 : decode mX5_daysGo.2.1 17 = .ok (.return_, 1) := by decide +kernel
theorem lp_X5_daysGo {O : Nat} (hO2 : O < 2147483648) (hd : 5 ≤ d) {x : Nat} (hx : x ≤ 1000) {h0 : Hp} : ∀ (k q t : Nat) (y : Int32) (g : Nat → Int32) (h : Hp), q + k = x → y = nI q → gOk g m t → gAge g m t → t + k ≤ 1073741824 → t + k ≤ O → WF F h w g (nI O) → Same w 10 h0 h → (∀ h', WF F h' w (sDys F m k t g) (nI O) → Same w 10 h0 h' → Q none h') → AW l G mX5_daysGo d 0 0 Q 0 0 h [some (.ref w), some (.int (nI x)), some (.int y)] [] 2 := by
  intro k
  induction k using Nat.strongRecOn with
  | _ k ih =>
    intro q t y g h hqk hy hg hA htk hO hW hs hQ
    subst hy
    refine aw_iload_n (pc' := 3) eX5_daysGo_2 rfl rfl ?_
    refine aw_iload_n (pc' := 4) eX5_daysGo_3 rfl rfl ?_
    refine aw_icmp_ge (pc' := 7) (tgt := 17) eX5_daysGo_4 rfl (by decide) (fun c_4 => ?_) (fun c_4 => ?_)
    · refine aw_ret (v := none) eX5_daysGo_17 rfl (by omega) (by omega) rfl ?_
      have c9 := ge_nI (by omega) (by omega) c_4
      obtain rfl : k = 0 := by omega
      exact hQ _ hW hs
    · have c9 := nge_nI (by omega) (by omega) c_4
      refine aw_aload_n (pc' := 8) eX5_daysGo_7 rfl rfl trivial ?_
      refine aw_callv (pc' := 11) (nn := 0) (c_X5_dayGoes (d := d - 1) hW hg hA (by have := nge_nI (a := q) (b := x) (by omega) (by omega) c_4; omega) hO2 (by omega)) eX5_daysGo_8 rfl ⟨q608, q349, q56⟩ q347 q348 ⟨rfl, by decide +kernel, by decide +kernel, by decide +kernel⟩ rfl hW.ob rfl ⟨by omega, by decide⟩ ⟨by omega, by omega⟩ rfl (Nat.le_of_ble_eq_true rfl) (fun v3 h4 hq5 => ?_)
      obtain ⟨rfl, hW1, hs2⟩ := hq5
      dsimp only [Option.toList, List.cons_append, List.nil_append]
      refine aw_iinc (pc' := 14) eX5_daysGo_11 rfl rfl rfl (by decide) ?_
      dsimp only [zst, zst2, zcut]
      refine aw_goto eX5_daysGo_14 (by decide) (tgt := 2) ?_
      obtain ⟨j, rfl⟩ : ∃ j, k = j + 1 := ⟨k - 1, by omega⟩
      exact ih j (by omega) (q + 1) (t + 1) _ _ _ (by omega) (nI_inc q) (sDay_ok hg (by omega)) (hA.day hg.2.1) (by omega) (by omega) hW1 (hs.tr hs2) hQ
theorem c_X5_daysGo {O : Nat} (hW : WF F h w g (nI O)) (hg : gOk g m t) (hA : gAge g m t) {x : Nat} (hx : x ≤ 1000) (htx : t + x ≤ 1073741824) (hO : t + x ≤ O) (hO2 : O < 2147483648) (hd : 5 ≤ d) : Ct l G mX5_daysGo yX5_daysGo d 0 0 [.ref w, .int (nI x)] h (fun r h' => r = none ∧ WF F h' w (sDys F m x t g) (nI O) ∧ Same w 10 h h') := by
  refine ct_of (lv := [some (.ref w), some (.int (nI x)), none]) (by decide +kernel) rfl (fun z => by cases z) (fun _ => rfl) (fun _ => Nat.le_of_ble_eq_true rfl) ?_
  refine aw_iconst (pc' := 1) (v := 0) eX5_daysGo_0 rfl (by decide) ?_
  refine aw_istore_n (pc' := 2) eX5_daysGo_1 rfl (by decide) ?_
  dsimp only [zst, zst2, zcut]
  exact lp_X5_daysGo hO2 hd hx x 0 t _ g _ (by omega) rfl hg hA htx hO hW Same.rf (fun h' a b => ⟨rfl, a, b⟩)
end C4
