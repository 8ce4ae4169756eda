/-! the model: what is brought up -/
section M14
variable {l : Launch} {G : GT} {u : Nat} {U U1 : MS} {d n m t : Nat} {g : Nat → Int32} {h : Hp} {Q : Option Value → Hp → Prop}
def sHv (F : FT) (g : Nat → Int32) (m t : Nat) : Nat → Int32 × Int32
  | 0 => (-1, 0)
  | k + 1 => if g (10 * k + 3) = 1 ∧ ((sHv F g m t k).1 = -1 ∨ (sHv F g m t k).2 < lod F g m t k) then (nI k, lod F g m t k) else sHv F g m t k
theorem sHv_or (F : FT) (g : Nat → Int32) (m t : Nat) : ∀ k, (sHv F g m t k).1 = -1 ∨ ∃ j, j < k ∧ (sHv F g m t k).1 = nI j
  | 0 => Or.inl rfl
  | k + 1 => by
    unfold sHv
    split
    · exact Or.inr ⟨k, by omega, rfl⟩
    · rcases sHv_or F g m t k with h | ⟨j, h1, h2⟩
      · exact Or.inl h
      · exact Or.inr ⟨j, by omega, h2⟩
def sBring (F : FT) (g : Nat → Int32) (m t : Nat) : Nat → Int32 :=
  if (F g 0).2 < sLoads F g m t m ∧ (sHv F g m t m).1 ≠ -1 then upd (upd g (10 * (sHv F g m t m).1.toNatClampNeg + 3) 2) (10 * (sHv F g m t m).1.toNatClampNeg + 5) (jr (nI t + 3 * (sHv F g m t m).1) 12) else g
theorem sBring_hi {F : FT} {g : Nat → Int32} {m t j : Nat} (hm : m ≤ 6) (hj : 60 ≤ j) : sBring F g m t j = g j := by
  unfold sBring
  split
  · rename_i z
    rcases sHv_or F g m t m with y | ⟨k, h1, h2⟩
    · exact absurd y z.2
    · rw [h2, nI_clamp (by omega), upd_ne (by omega), upd_ne (by omega)]
  · rfl
theorem gOk_of {g g' : Nat → Int32} (hg : gOk g m t) (he : g' 60 = g 60) (h67 : g' 67 = g 67) (h68 : g' 68 = g 68) : gOk g' m t := by
  unfold gOk
  rw [he, h67, h68]
  exact hg

abbrev mX7_loads : MT := (RX7, cX7_loads, 3, (some .int), false)
theorem eX7_loads_0 : decode mX7_loads.2.1 0 = .ok (.iconst 0, 1) := by decide +kernel
theorem eX7_loads_1 : decode mX7_loads.2.1 1 = .ok (.istore_n 1, 1) := by decide +kernel
theorem eX7_loads_2 : decode mX7_loads.2.1 2 = .ok (.iconst 0, 1) := by decide +kernel
theorem eX7_loads_3 : decode mX7_loads.2.1 3 = .ok (.istore_n 2, 1) := by decide +kernel
theorem eX7_loads_4 : decode mX7_loads.2.1 4 = .ok (.iload_n 2, 1) := by decide +kernel
theorem eX7_loads_5 : decode mX7_loads.2.1 5 = .ok (.aload_n 0, 1) := by decide +kernel
theorem eX7_loads_6 : decode mX7_loads.2.1 6 = .ok (.getfield 15, 3) := by decide +kernel
theorem eX7_loads_9 : decode mX7_loads.2.1 9 = .ok (.bipush 60, 2) := by decide +kernel
theorem eX7_loads_11 : decode mX7_loads.2.1 11 = .ok (.iaload, 1) := by decide +kernel
theorem eX7_loads_12 : decode mX7_loads.2.1 12 = .ok (.if_icmp .ge 30, 3) := by decide +kernel
theorem eX7_loads_15 : decode mX7_loads.2.1 15 = .ok (.iload_n 1, 1) := by decide +kernel
theorem eX7_loads_16 : decode mX7_loads.2.1 16 = .ok (.aload_n 0, 1) := by decide +kernel
theorem eX7_loads_17 : decode mX7_loads.2.1 17 = .ok (.iload_n 2, 1) := by decide +kernel
theorem eX7_loads_18 : decode mX7_loads.2.1 18 = .ok (.iconst 1, 1) := by decide +kernel
theorem eX7_loads_19 : decode mX7_loads.2.1 19 = .ok (.invokevirtual 105, 3) := by decide +kernel
theorem eX7_loads_22 : decode mX7_loads.2.1 22 = .ok (.ifCond .eq 11, 3) := by decide +kernel
theorem eX7_loads_25 : decode mX7_loads.2.1 25 = .ok (.aload_n 0, 1) := by decide +kernel
theorem eX7_loads_26 : decode mX7_loads.2.1 26 = .ok (.iload_n 2, 1) := by decide +kernel
theorem eX7_loads_27 : decode mX7_loads.2.1 27 = .ok (.invokevirtual 92, 3) := by decide +kernel
theorem eX7_loads_30 : decode mX7_loads.2.1 30 = .ok (.goto 4, 3) := by decide +kernel
theorem eX7_loads_33 : decode mX7_loads.2.1 33 = .ok (.iconst 0, 1) := by decide +kernel
theorem eX7_loads_34 : decode mX7_loads.2.1 34 = .ok (.iadd, 1) := by decide +kernel
theorem eX7_loads_35 : decode mX7_loads.2.1 35 = .ok (.istore_n 1, 1) := by decide +kernel
theorem eX7_loads_36 : decode mX7_loads.2.1 36 = .ok (.iinc 2 1, 3) := by decide +kernel
theorem eX7_loads_39 : decode mX7_loads.2.1 39 = .ok (.goto (-35), 3) := by decide +kernel
theorem eX7_loads_42 : decode mX7_loads.2.1 42 = .ok (.iload_n 1, 1) := by decide +kernel
theorem eX7_loads_43 : decode mX7_loads.2.1 43 = .ok (.ireturn, 1) := by decide +kernel
theorem lp_X7_loads (hz : mZ U) (hg : gOk g m t) (hd : 22 ≤ d) {h0 : Hp} (hQ : ∀ h' U', MAt h' u U' → MK n g U U' → Same u 19 h0 h' → Q (some (.int (sLoads (mRd U) g m t m))) h') : ∀ (j i : Nat) (y x : Int32) (h : Hp) (U1 : MS), j = m - i → i ≤ m → y = nI i → x = sLoads (mRd U) g m t i → MK n g U U1 → MAt h u U1 → Same u 19 h0 h → AW l G mX7_loads d 0 0 Q 0 0 h [some (.ref u), some (.int x), some (.int y)] [] 4 := by
  have hgg := hg
  obtain ⟨hm, hm6, ht, ht2, hgq⟩ := hgg
  intro j
  induction j using Nat.strongRecOn with
  | _ j ih =>
    intro i y x h U1 hj hi hy hx hk hM hs
    subst hy hx
    refine aw_iload_n (pc' := 5) eX7_loads_4 rfl rfl ?_
    refine aw_aload_n (pc' := 6) eX7_loads_5 rfl rfl trivial ?_
    refine aw_Mref (pc' := 9) (kf := 0) 1 hM eX7_loads_6 rfl (by decide) rfl q789 ?_
    refine aw_bipush (pc' := 11) (v := 60) eX7_loads_9 rfl (by decide) ?_
    refine aw_MaldC (pc' := 12) 1 60 hM eX7_loads_11 rfl (by decide) (by unfold vp_in; decide) (by decide) ?_
    refine aw_icmp_ge (pc' := 15) (tgt := 42) eX7_loads_12 rfl (by decide) (fun c_12 => ?_) (fun c_12 => ?_)
    · rw [hk.1, hm] at c_12
      have c9 := ge_nI (by omega) (by omega) c_12
      obtain rfl : i = m := by omega
      refine aw_iload_n (pc' := 43) eX7_loads_42 rfl rfl ?_
      refine aw_ret (v := some (.int _)) eX7_loads_43 ⟨rfl, rfl⟩ (by omega) (by omega) rfl ?_
      exact hQ _ _ hM hk hs
    · rw [hk.1, hm] at c_12
      have c9 := nge_nI (by omega) (by omega) c_12
      refine aw_iload_n (pc' := 16) eX7_loads_15 rfl rfl ?_
      refine aw_aload_n (pc' := 17) eX7_loads_16 rfl rfl trivial ?_
      refine aw_iload_n (pc' := 18) eX7_loads_17 rfl rfl ?_
      refine aw_iconst (pc' := 19) (v := 1) eX7_loads_18 rfl (by decide) ?_
      refine aw_callv (pc' := 22) (nn := 2) (c_isAs (d := d - 1) hM i 1 (by omega) (by omega)) eX7_loads_19 rfl ⟨q957, q960, q62⟩ q959 q36 ⟨rfl, by decide +kernel, by decide +kernel, by decide +kernel⟩ rfl (by rw [hM.2.1]; exact ⟨rfl, rfl⟩) rfl ⟨by omega, by decide⟩ ⟨by omega, by omega⟩ rfl (Nat.le_of_ble_eq_true rfl) (fun v1 h2 hq3 => ?_)
      obtain ⟨rfl, rfl⟩ := hq3
      dsimp only [Option.toList, List.cons_append, List.nil_append]
      refine aw_if_eq (pc' := 25) (tgt := 33) eX7_loads_22 rfl (by decide) (fun c_22 => ?_) (fun c_22 => ?_)
      · refine aw_iconst (pc' := 34) (v := 0) eX7_loads_33 rfl (by decide) ?_
        refine aw_iadd (pc' := 35) eX7_loads_34 rfl ?_
        refine aw_istore_n (pc' := 36) eX7_loads_35 rfl (by decide) ?_
        dsimp only [zst, zst2, zcut]
        refine aw_iinc (pc' := 39) eX7_loads_36 rfl rfl rfl (by decide) ?_
        dsimp only [zst, zst2, zcut]
        refine aw_goto eX7_loads_39 (by decide) (tgt := 4) ?_
        simp only [zb_eq0, Bool.not_eq_false, Bool.not_eq_true, decide_eq_true_eq, decide_eq_false_iff_not, Decidable.not_not, hk.1] at c_22
        refine ih (m - (i + 1)) (by omega) (i + 1) _ _ _ _ rfl (by omega) (nI_inc i) ?_ hk hM hs
        simp [sLoads, c_22]
      · refine aw_aload_n (pc' := 26) eX7_loads_25 rfl rfl trivial ?_
        refine aw_iload_n (pc' := 27) eX7_loads_26 rfl rfl ?_
        refine aw_callv (pc' := 30) (nn := 1) (c_X7_load (d := d - 1) hk hM hz hg (i := i) (by omega) (by omega)) eX7_loads_27 rfl ⟨q905, q908, q62⟩ q907 q23 ⟨rfl, by decide +kernel, by decide +kernel, by decide +kernel⟩ rfl (by rw [hM.2.1]; exact ⟨rfl, rfl⟩) rfl ⟨by omega, by decide⟩ ⟨by omega, by omega⟩ rfl (Nat.le_of_ble_eq_true rfl) (fun v6 h7 hq8 => ?_)
        obtain ⟨rfl, UL, hM4, kl, hs5⟩ := hq8
        dsimp only [Option.toList, List.cons_append, List.nil_append]
        refine aw_goto eX7_loads_30 (by decide) (tgt := 34) ?_
        refine aw_iadd (pc' := 35) eX7_loads_34 rfl ?_
        refine aw_istore_n (pc' := 36) eX7_loads_35 rfl (by decide) ?_
        dsimp only [zst, zst2, zcut]
        refine aw_iinc (pc' := 39) eX7_loads_36 rfl rfl rfl (by decide) ?_
        dsimp only [zst, zst2, zcut]
        refine aw_goto eX7_loads_39 (by decide) (tgt := 4) ?_
        simp only [zb_eq0, Bool.not_eq_false, Bool.not_eq_true, decide_eq_true_eq, decide_eq_false_iff_not, Decidable.not_not, hk.1] at c_22
        refine ih (m - (i + 1)) (by omega) (i + 1) _ _ _ _ rfl (by omega) (nI_inc i) ?_ kl hM4 (hs.tr hs5)
        simp [sLoads, c_22]
theorem c_X7_loads (hk : MK n g U U1) (hM : MAt h u U1) (hz : mZ U) (hg : gOk g m t) (hd : 22 ≤ d) : Ct l G mX7_loads yX7_loads d 0 0 [.ref u] h (fun r h' => r = some (.int (sLoads (mRd U) g m t m)) ∧ ∃ U', MAt h' u U' ∧ MK n g U U' ∧ Same u 19 h h') := by
  refine ct_of (lv := [some (.ref u), none, none]) (by decide +kernel) rfl (fun z => by cases z) (fun _ => rfl) (fun _ => Nat.le_of_ble_eq_true rfl) ?_
  refine aw_iconst (pc' := 1) (v := 0) eX7_loads_0 rfl (by decide) ?_
  refine aw_istore_n (pc' := 2) eX7_loads_1 rfl (by decide) ?_
  dsimp only [zst, zst2, zcut]
  refine aw_iconst (pc' := 3) (v := 0) eX7_loads_2 rfl (by decide) ?_
  refine aw_istore_n (pc' := 4) eX7_loads_3 rfl (by decide) ?_
  dsimp only [zst, zst2, zcut]
  exact lp_X7_loads hz hg hd (fun h' U' a b c => ⟨rfl, U', a, b, c⟩) m 0 _ _ _ _ (by omega) (by omega) rfl rfl hk hM Same.rf
abbrev mX7_roomNow : MT := (RX7, cX7_roomNow, 1, (some .int), false)
theorem eX7_roomNow_0 : decode mX7_roomNow.2.1 0 = .ok (.aload_n 0, 1) := by decide +kernel
theorem eX7_roomNow_1 : decode mX7_roomNow.2.1 1 = .ok (.iconst 0, 1) := by decide +kernel
theorem eX7_roomNow_2 : decode mX7_roomNow.2.1 2 = .ok (.invokevirtual 180, 3) := by decide +kernel
theorem eX7_roomNow_5 : decode mX7_roomNow.2.1 5 = .ok (.aload_n 0, 1) := by decide +kernel
theorem eX7_roomNow_6 : decode mX7_roomNow.2.1 6 = .ok (.getfield 165, 3) := by decide +kernel
theorem eX7_roomNow_9 : decode mX7_roomNow.2.1 9 = .ok (.ireturn, 1) := by decide +kernel
theorem c_X7_roomNow (hk : MK n g U U1) (hM : MAt h u U1) (hz : mZ U) (hg : gOk g m t) (hd : 21 ≤ d) : Ct l G mX7_roomNow yX7_roomNow d 0 0 [.ref u] h (fun r h' => r = some (.int (mRd U g 0).2) ∧ ∃ U', MAt h' u U' ∧ MK n g U U' ∧ Same u 19 h h') := by
  refine ct_of (lv := [some (.ref u)]) (by decide +kernel) rfl (fun z => by cases z) (fun _ => rfl) (fun _ => Nat.le_of_ble_eq_true rfl) ?_
  have hgg := hg
  obtain ⟨hm, hm6, ht, ht2, hgq⟩ := hgg
  refine aw_aload_n (pc' := 1) eX7_roomNow_0 rfl rfl trivial ?_
  refine aw_iconst (pc' := 2) (v := 0) eX7_roomNow_1 rfl (by decide) ?_
  refine aw_callv (pc' := 5) (nn := 1) (c_X7_readFor (d := d - 1) hM (i := 0) (by omega) (hz.k hk) (by rw [hk.1]; exact hgq) (by omega)) eX7_roomNow_2 rfl ⟨q909, q912, q62⟩ q911 q24 ⟨rfl, by decide +kernel, by decide +kernel, by decide +kernel⟩ rfl (by rw [hM.2.1]; exact ⟨rfl, rfl⟩) rfl ⟨by omega, by decide⟩ ⟨by omega, by omega⟩ rfl (Nat.le_of_ble_eq_true rfl) (fun v3 h4 hq5 => ?_)
  obtain ⟨rfl, U2, hM1, k2, e14, e15, hs2⟩ := hq5
  dsimp only [Option.toList, List.cons_append, List.nil_append]
  refine aw_aload_n (pc' := 6) eX7_roomNow_5 rfl rfl trivial ?_
  refine aw_Mint (pc' := 9) (kf := 15) hM1 eX7_roomNow_6 rfl (by decide) q804 ?_
  refine aw_ret (v := some (.int _)) eX7_roomNow_9 ⟨rfl, rfl⟩ (by omega) (by omega) rfl ?_
  have k3 := k2
  rw [hk.1] at k3
  exact ⟨by rw [e15, hk.1, mRd_k hk], U2, hM1, hk.tr (k3.le (Nat.zero_le n)), hs2⟩
abbrev mX7_bringUp : MT := (RX7, cX7_bringUp, 5, none, false)
theorem eX7_bringUp_0 : decode mX7_bringUp.2.1 0 = .ok (.aload_n 0, 1) := by decide +kernel
theorem eX7_bringUp_1 : decode mX7_bringUp.2.1 1 = .ok (.invokevirtual 191, 3) := by decide +kernel
theorem eX7_bringUp_4 : decode mX7_bringUp.2.1 4 = .ok (.aload_n 0, 1) := by decide +kernel
theorem eX7_bringUp_5 : decode mX7_bringUp.2.1 5 = .ok (.invokevirtual 194, 3) := by decide +kernel
theorem eX7_bringUp_8 : decode mX7_bringUp.2.1 8 = .ok (.if_icmp .gt 4, 3) := by decide +kernel
theorem eX7_bringUp_11 : decode mX7_bringUp.2.1 11 = .ok (.return_, 1) := by decide +kernel
theorem eX7_bringUp_12 : decode mX7_bringUp.2.1 12 = .ok (.iconst (-1), 1) := by decide +kernel
theorem eX7_bringUp_13 : decode mX7_bringUp.2.1 13 = .ok (.istore_n 1, 1) := by decide +kernel
theorem eX7_bringUp_14 : decode mX7_bringUp.2.1 14 = .ok (.iconst 0, 1) := by decide +kernel
theorem eX7_bringUp_15 : decode mX7_bringUp.2.1 15 = .ok (.istore_n 2, 1) := by decide +kernel
theorem eX7_bringUp_16 : decode mX7_bringUp.2.1 16 = .ok (.iconst 0, 1) := by decide +kernel
theorem eX7_bringUp_17 : decode mX7_bringUp.2.1 17 = .ok (.istore_n 3, 1) := by decide +kernel
theorem eX7_bringUp_18 : decode mX7_bringUp.2.1 18 = .ok (.iload_n 3, 1) := by decide +kernel
theorem eX7_bringUp_19 : decode mX7_bringUp.2.1 19 = .ok (.aload_n 0, 1) := by decide +kernel
theorem eX7_bringUp_20 : decode mX7_bringUp.2.1 20 = .ok (.getfield 15, 3) := by decide +kernel
theorem eX7_bringUp_23 : decode mX7_bringUp.2.1 23 = .ok (.bipush 60, 2) := by decide +kernel
theorem eX7_bringUp_25 : decode mX7_bringUp.2.1 25 = .ok (.iaload, 1) := by decide +kernel
theorem eX7_bringUp_26 : decode mX7_bringUp.2.1 26 = .ok (.if_icmp .ge 41, 3) := by decide +kernel
theorem eX7_bringUp_29 : decode mX7_bringUp.2.1 29 = .ok (.aload_n 0, 1) := by decide +kernel
theorem eX7_bringUp_30 : decode mX7_bringUp.2.1 30 = .ok (.iload_n 3, 1) := by decide +kernel
theorem eX7_bringUp_31 : decode mX7_bringUp.2.1 31 = .ok (.iconst 1, 1) := by decide +kernel
theorem eX7_bringUp_32 : decode mX7_bringUp.2.1 32 = .ok (.invokevirtual 105, 3) := by decide +kernel
theorem eX7_bringUp_35 : decode mX7_bringUp.2.1 35 = .ok (.ifCond .eq 26, 3) := by decide +kernel
theorem eX7_bringUp_38 : decode mX7_bringUp.2.1 38 = .ok (.aload_n 0, 1) := by decide +kernel
theorem eX7_bringUp_39 : decode mX7_bringUp.2.1 39 = .ok (.iload_n 3, 1) := by decide +kernel
theorem eX7_bringUp_40 : decode mX7_bringUp.2.1 40 = .ok (.invokevirtual 92, 3) := by decide +kernel
theorem eX7_bringUp_43 : decode mX7_bringUp.2.1 43 = .ok (.istore 4, 2) := by decide +kernel
theorem eX7_bringUp_45 : decode mX7_bringUp.2.1 45 = .ok (.iload_n 1, 1) := by decide +kernel
theorem eX7_bringUp_46 : decode mX7_bringUp.2.1 46 = .ok (.iconst (-1), 1) := by decide +kernel
theorem eX7_bringUp_47 : decode mX7_bringUp.2.1 47 = .ok (.if_icmp .eq 9, 3) := by decide +kernel
theorem eX7_bringUp_50 : decode mX7_bringUp.2.1 50 = .ok (.iload 4, 2) := by decide +kernel
theorem eX7_bringUp_52 : decode mX7_bringUp.2.1 52 = .ok (.iload_n 2, 1) := by decide +kernel
theorem eX7_bringUp_53 : decode mX7_bringUp.2.1 53 = .ok (.if_icmp .le 8, 3) := by decide +kernel
theorem eX7_bringUp_56 : decode mX7_bringUp.2.1 56 = .ok (.iload_n 3, 1) := by decide +kernel
theorem eX7_bringUp_57 : decode mX7_bringUp.2.1 57 = .ok (.istore_n 1, 1) := by decide +kernel
theorem eX7_bringUp_58 : decode mX7_bringUp.2.1 58 = .ok (.iload 4, 2) := by decide +kernel
theorem eX7_bringUp_60 : decode mX7_bringUp.2.1 60 = .ok (.istore_n 2, 1) := by decide +kernel
theorem eX7_bringUp_61 : decode mX7_bringUp.2.1 61 = .ok (.iinc 3 1, 3) := by decide +kernel
theorem eX7_bringUp_64 : decode mX7_bringUp.2.1 64 = .ok (.goto (-46), 3) := by decide +kernel
theorem eX7_bringUp_67 : decode mX7_bringUp.2.1 67 = .ok (.iload_n 1, 1) := by decide +kernel
theorem eX7_bringUp_68 : decode mX7_bringUp.2.1 68 = .ok (.iconst (-1), 1) := by decide +kernel
theorem eX7_bringUp_69 : decode mX7_bringUp.2.1 69 = .ok (.if_icmp .eq 32, 3) := by decide +kernel
theorem eX7_bringUp_72 : decode mX7_bringUp.2.1 72 = .ok (.aload_n 0, 1) := by decide +kernel
theorem eX7_bringUp_73 : decode mX7_bringUp.2.1 73 = .ok (.iload_n 1, 1) := by decide +kernel
theorem eX7_bringUp_74 : decode mX7_bringUp.2.1 74 = .ok (.iconst 3, 1) := by decide +kernel
theorem eX7_bringUp_75 : decode mX7_bringUp.2.1 75 = .ok (.iconst 2, 1) := by decide +kernel
theorem eX7_bringUp_76 : decode mX7_bringUp.2.1 76 = .ok (.invokevirtual 109, 3) := by decide +kernel
theorem eX7_bringUp_79 : decode mX7_bringUp.2.1 79 = .ok (.pop, 1) := by decide +kernel
theorem eX7_bringUp_80 : decode mX7_bringUp.2.1 80 = .ok (.aload_n 0, 1) := by decide +kernel
theorem eX7_bringUp_81 : decode mX7_bringUp.2.1 81 = .ok (.iload_n 1, 1) := by decide +kernel
theorem eX7_bringUp_82 : decode mX7_bringUp.2.1 82 = .ok (.iconst 5, 1) := by decide +kernel
theorem eX7_bringUp_83 : decode mX7_bringUp.2.1 83 = .ok (.aload_n 0, 1) := by decide +kernel
theorem eX7_bringUp_84 : decode mX7_bringUp.2.1 84 = .ok (.getfield 15, 3) := by decide +kernel
theorem eX7_bringUp_87 : decode mX7_bringUp.2.1 87 = .ok (.bipush 67, 2) := by decide +kernel
theorem eX7_bringUp_89 : decode mX7_bringUp.2.1 89 = .ok (.iaload, 1) := by decide +kernel
theorem eX7_bringUp_90 : decode mX7_bringUp.2.1 90 = .ok (.iconst 3, 1) := by decide +kernel
theorem eX7_bringUp_91 : decode mX7_bringUp.2.1 91 = .ok (.iload_n 1, 1) := by decide +kernel
theorem eX7_bringUp_92 : decode mX7_bringUp.2.1 92 = .ok (.imul, 1) := by decide +kernel
theorem eX7_bringUp_93 : decode mX7_bringUp.2.1 93 = .ok (.iadd, 1) := by decide +kernel
theorem eX7_bringUp_94 : decode mX7_bringUp.2.1 94 = .ok (.bipush 12, 2) := by decide +kernel
theorem eX7_bringUp_96 : decode mX7_bringUp.2.1 96 = .ok (.irem, 1) := by decide +kernel
theorem eX7_bringUp_97 : decode mX7_bringUp.2.1 97 = .ok (.invokevirtual 109, 3) := by decide +kernel
theorem eX7_bringUp_100 : decode mX7_bringUp.2.1 100 = .ok (.pop, 1) := by decide +kernel
theorem eX7_bringUp_101 : decode mX7_bringUp.2.1 101 = .ok (.return_, 1) := by decide +kernel
theorem lp_X7_bringUp (hz : mZ U) (hg : gOk g m t) (hd : 22 ≤ d) {h0 : Hp} (hQ : ∀ h' U' o3 o4, MAt h' u U' → MK n g U U' → Same u 19 h0 h' → AW l G mX7_bringUp d 0 0 Q 0 0 h' [some (.ref u), some (.int (sHv (mRd U) g m t m).1), some (.int (sHv (mRd U) g m t m).2), o3, o4] [] 67) : ∀ (j i : Nat) (y x1 x2 : Int32) (o4 : Option Value) (h : Hp) (U1 : MS), j = m - i → i ≤ m → y = nI i → x1 = (sHv (mRd U) g m t i).1 → x2 = (sHv (mRd U) g m t i).2 → MK n g U U1 → MAt h u U1 → Same u 19 h0 h → AW l G mX7_bringUp d 0 0 Q 0 0 h [some (.ref u), some (.int x1), some (.int x2), some (.int y), o4] [] 18 := by
  have hgg := hg
  obtain ⟨hm, hm6, ht, ht2, hgq⟩ := hgg
  intro j
  induction j using Nat.strongRecOn with
  | _ j ih =>
    intro i y x1 x2 o4 h U1 hj hi hy hx1 hx2 hk hM hs
    subst hy hx1 hx2
    refine aw_iload_n (pc' := 19) eX7_bringUp_18 rfl rfl ?_
    refine aw_aload_n (pc' := 20) eX7_bringUp_19 rfl rfl trivial ?_
    refine aw_Mref (pc' := 23) (kf := 0) 1 hM eX7_bringUp_20 rfl (by decide) rfl q789 ?_
    refine aw_bipush (pc' := 25) (v := 60) eX7_bringUp_23 rfl (by decide) ?_
    refine aw_MaldC (pc' := 26) 1 60 hM eX7_bringUp_25 rfl (by decide) (by unfold vp_in; decide) (by decide) ?_
    refine aw_icmp_ge (pc' := 29) (tgt := 67) eX7_bringUp_26 rfl (by decide) (fun c_26 => ?_) (fun c_26 => ?_)
    · rw [hk.1, hm] at c_26
      have c9 := ge_nI (by omega) (by omega) c_26
      obtain rfl : i = m := by omega
      exact hQ _ _ _ _ hM hk hs
    · rw [hk.1, hm] at c_26
      have c9 := nge_nI (by omega) (by omega) c_26
      refine aw_aload_n (pc' := 30) eX7_bringUp_29 rfl rfl trivial ?_
      refine aw_iload_n (pc' := 31) eX7_bringUp_30 rfl rfl ?_
      refine aw_iconst (pc' := 32) (v := 1) eX7_bringUp_31 rfl (by decide) ?_
      refine aw_callv (pc' := 35) (nn := 2) (c_isAs (d := d - 1) hM i 1 (by omega) (by omega)) eX7_bringUp_32 rfl ⟨q957, q960, q62⟩ q959 q36 ⟨rfl, by decide +kernel, by decide +kernel, by decide +kernel⟩ rfl (by rw [hM.2.1]; exact ⟨rfl, rfl⟩) rfl ⟨by omega, by decide⟩ ⟨by omega, by omega⟩ rfl (Nat.le_of_ble_eq_true rfl) (fun v1 h2 hq3 => ?_)
      obtain ⟨rfl, rfl⟩ := hq3
      dsimp only [Option.toList, List.cons_append, List.nil_append]
      refine aw_if_eq (pc' := 38) (tgt := 61) eX7_bringUp_35 rfl (by decide) (fun c_35 => ?_) (fun c_35 => ?_)
      · refine aw_iinc (pc' := 64) eX7_bringUp_61 rfl rfl rfl (by decide) ?_
        dsimp only [zst, zst2, zcut]
        refine aw_goto eX7_bringUp_64 (by decide) (tgt := 18) ?_
        simp only [zb_eq0, Bool.not_eq_false, Bool.not_eq_true, decide_eq_true_eq, decide_eq_false_iff_not, Decidable.not_not, hk.1] at c_35
        have e : sHv (mRd U) g m t (i + 1) = sHv (mRd U) g m t i := if_neg (fun z => c_35 z.1)
        exact ih (m - (i + 1)) (by omega) (i + 1) _ _ _ _ _ _ rfl (by omega) (nI_inc i) (by rw [e]) (by rw [e]) hk hM hs
      · refine aw_aload_n (pc' := 39) eX7_bringUp_38 rfl rfl trivial ?_
        refine aw_iload_n (pc' := 40) eX7_bringUp_39 rfl rfl ?_
        refine aw_callv (pc' := 43) (nn := 1) (c_X7_load (d := d - 1) hk hM hz hg (i := i) (by omega) (by omega)) eX7_bringUp_40 rfl ⟨q905, q908, q62⟩ q907 q23 ⟨rfl, by decide +kernel, by decide +kernel, by decide +kernel⟩ rfl (by rw [hM.2.1]; exact ⟨rfl, rfl⟩) rfl ⟨by omega, by decide⟩ ⟨by omega, by omega⟩ rfl (Nat.le_of_ble_eq_true rfl) (fun v6 h7 hq8 => ?_)
        obtain ⟨rfl, UL, hM4, kl, hs5⟩ := hq8
        dsimp only [Option.toList, List.cons_append, List.nil_append]
        refine aw_istore (pc' := 45) eX7_bringUp_43 rfl (by decide) ?_
        dsimp only [zst, zst2, zcut]
        refine aw_iload_n (pc' := 46) eX7_bringUp_45 rfl rfl ?_
        refine aw_iconst (pc' := 47) (v := -1) eX7_bringUp_46 rfl (by decide) ?_
        refine aw_icmp_eq (pc' := 50) (tgt := 56) eX7_bringUp_47 rfl (by decide) (fun c_47 => ?_) (fun c_47 => ?_)
        · refine aw_iload_n (pc' := 57) eX7_bringUp_56 rfl rfl ?_
          refine aw_istore_n (pc' := 58) eX7_bringUp_57 rfl (by decide) ?_
          dsimp only [zst, zst2, zcut]
          refine aw_iload (pc' := 60) eX7_bringUp_58 rfl rfl ?_
          refine aw_istore_n (pc' := 61) eX7_bringUp_60 rfl (by decide) ?_
          dsimp only [zst, zst2, zcut]
          refine aw_iinc (pc' := 64) eX7_bringUp_61 rfl rfl rfl (by decide) ?_
          dsimp only [zst, zst2, zcut]
          refine aw_goto eX7_bringUp_64 (by decide) (tgt := 18) ?_
          simp only [zb_eq0, Bool.not_eq_false, Bool.not_eq_true, decide_eq_true_eq, decide_eq_false_iff_not, Decidable.not_not, hk.1] at c_35
          have e : sHv (mRd U) g m t (i + 1) = (nI i, lod (mRd U) g m t i) := if_pos ⟨c_35, Or.inl (by first | exact c_47 | exact Decidable.not_not.mp c_47)⟩
          exact ih (m - (i + 1)) (by omega) (i + 1) _ _ _ _ _ _ rfl (by omega) (nI_inc i) (by rw [e]) (by rw [e]) kl hM4 (hs.tr hs5)
        · refine aw_iload (pc' := 52) eX7_bringUp_50 rfl rfl ?_
          refine aw_iload_n (pc' := 53) eX7_bringUp_52 rfl rfl ?_
          refine aw_icmp_le (pc' := 56) (tgt := 61) eX7_bringUp_53 rfl (by decide) (fun c_53 => ?_) (fun c_53 => ?_)
          · refine aw_iinc (pc' := 64) eX7_bringUp_61 rfl rfl rfl (by decide) ?_
            dsimp only [zst, zst2, zcut]
            refine aw_goto eX7_bringUp_64 (by decide) (tgt := 18) ?_
            simp only [zb_eq0, Bool.not_eq_false, Bool.not_eq_true, decide_eq_true_eq, decide_eq_false_iff_not, Decidable.not_not, hk.1] at c_35
            have e : sHv (mRd U) g m t (i + 1) = sHv (mRd U) g m t i := if_neg (fun z => z.2.elim (fun y => by first | exact c_47 y | exact c_47 (fun w => w y)) (fun y => absurd y (by first | exact Int32.not_lt.mpr c_53 | exact c_53)))
            exact ih (m - (i + 1)) (by omega) (i + 1) _ _ _ _ _ _ rfl (by omega) (nI_inc i) (by rw [e]) (by rw [e]) kl hM4 (hs.tr hs5)
          · refine aw_iload_n (pc' := 57) eX7_bringUp_56 rfl rfl ?_
            refine aw_istore_n (pc' := 58) eX7_bringUp_57 rfl (by decide) ?_
            dsimp only [zst, zst2, zcut]
            refine aw_iload (pc' := 60) eX7_bringUp_58 rfl rfl ?_
            refine aw_istore_n (pc' := 61) eX7_bringUp_60 rfl (by decide) ?_
            dsimp only [zst, zst2, zcut]
            refine aw_iinc (pc' := 64) eX7_bringUp_61 rfl rfl rfl (by decide) ?_
            dsimp only [zst, zst2, zcut]
            refine aw_goto eX7_bringUp_64 (by decide) (tgt := 18) ?_
            simp only [zb_eq0, Bool.not_eq_false, Bool.not_eq_true, decide_eq_true_eq, decide_eq_false_iff_not, Decidable.not_not, hk.1] at c_35
            have e : sHv (mRd U) g m t (i + 1) = (nI i, lod (mRd U) g m t i) := if_pos ⟨c_35, Or.inr (by first | exact c_53 | exact Int32.not_le.mp c_53)⟩
            exact ih (m - (i + 1)) (by omega) (i + 1) _ _ _ _ _ _ rfl (by omega) (nI_inc i) (by rw [e]) (by rw [e]) kl hM4 (hs.tr hs5)
theorem c_X7_bringUp (hk : MK n g U U1) (hM : MAt h u U1) (hz : mZ U) (hg : gOk g m t) (hd : 23 ≤ d) : Ct l G mX7_bringUp yX7_bringUp d 0 0 [.ref u] h (fun r h' => r = none ∧ ∃ U', MAt h' u U' ∧ MK n (sBring (mRd U) g m t) U U' ∧ Same u 19 h h') := by
  refine ct_of (lv := [some (.ref u), none, none, none, none]) (by decide +kernel) rfl (fun z => by cases z) (fun _ => rfl) (fun _ => Nat.le_of_ble_eq_true rfl) ?_
  have hgg := hg
  obtain ⟨hm, hm6, ht, ht2, hgq⟩ := hgg
  refine aw_aload_n (pc' := 1) eX7_bringUp_0 rfl rfl trivial ?_
  refine aw_callv (pc' := 4) (nn := 0) (c_X7_loads (d := d - 1) hk hM hz hg (by omega)) eX7_bringUp_1 rfl ⟨q978, q981, q62⟩ q980 q41 ⟨rfl, by decide +kernel, by decide +kernel, by decide +kernel⟩ rfl (by rw [hM.2.1]; exact ⟨rfl, rfl⟩) rfl ⟨by omega, by decide⟩ ⟨by omega, by omega⟩ rfl (Nat.le_of_ble_eq_true rfl) (fun v3 h4 hq5 => ?_)
  obtain ⟨rfl, UL, hM1, k2, hs2⟩ := hq5
  dsimp only [Option.toList, List.cons_append, List.nil_append]
  refine aw_aload_n (pc' := 5) eX7_bringUp_4 rfl rfl trivial ?_
  refine aw_callv (pc' := 8) (nn := 0) (c_X7_roomNow (d := d - 1) k2 hM1 hz hg (by omega)) eX7_bringUp_5 rfl ⟨q982, q985, q62⟩ q984 q42 ⟨rfl, by decide +kernel, by decide +kernel, by decide +kernel⟩ rfl (by rw [hM1.2.1]; exact ⟨rfl, rfl⟩) rfl ⟨by omega, by decide⟩ ⟨by omega, by omega⟩ rfl (Nat.le_of_ble_eq_true rfl) (fun v8 h9 hq10 => ?_)
  obtain ⟨rfl, UR, hM6, k3, hs7⟩ := hq10
  have hT11 := hs2.tr hs7
  dsimp only [Option.toList, List.cons_append, List.nil_append]
  refine aw_icmp_gt (pc' := 11) (tgt := 12) eX7_bringUp_8 rfl (by decide) (fun c_8 => ?_) (fun c_8 => ?_)
  · refine aw_iconst (pc' := 13) (v := -1) eX7_bringUp_12 rfl (by decide) ?_
    refine aw_istore_n (pc' := 14) eX7_bringUp_13 rfl (by decide) ?_
    dsimp only [zst, zst2, zcut]
    refine aw_iconst (pc' := 15) (v := 0) eX7_bringUp_14 rfl (by decide) ?_
    refine aw_istore_n (pc' := 16) eX7_bringUp_15 rfl (by decide) ?_
    dsimp only [zst, zst2, zcut]
    refine aw_iconst (pc' := 17) (v := 0) eX7_bringUp_16 rfl (by decide) ?_
    refine aw_istore_n (pc' := 18) eX7_bringUp_17 rfl (by decide) ?_
    dsimp only [zst, zst2, zcut]
    refine lp_X7_bringUp (n := n) hz hg (by omega) (fun h' U' o3 o4 m9 k9 s9 => ?_) m 0 _ _ _ _ _ _ (by omega) (by omega) rfl rfl rfl k3 hM6 hT11
    refine aw_iload_n (pc' := 68) eX7_bringUp_67 rfl rfl ?_
    refine aw_iconst (pc' := 69) (v := -1) eX7_bringUp_68 rfl (by decide) ?_
    refine aw_icmp_eq (pc' := 72) (tgt := 101) eX7_bringUp_69 rfl (by decide) (fun c_69 => ?_) (fun c_69 => ?_)
    · refine aw_ret (v := none) eX7_bringUp_101 rfl (by omega) (by omega) rfl ?_
      exact ⟨rfl, _, m9, by rw [sBring, if_neg (fun z => z.2 (by first | exact c_69 | exact Decidable.not_not.mp c_69))]; exact k9, s9⟩
    · obtain ⟨b, hb, eb⟩ := (sHv_or (mRd U) g m t m).resolve_left c_69
      rw [eb]
      have e67 : (mup U' 1 (10 * b + 3) 2).1 1 67 = nI t := by rw [mup1, upd_ne (by omega), k9.1]; exact ht
      have eS : sBring (mRd U) g m t = upd (upd g (10 * b + 3) 2) (10 * b + 5) (jr (nI t + 3 * nI b) 12) := by
        rw [sBring, if_pos ⟨by first | exact c_8 | exact Int32.not_le.mp c_8, c_69⟩, eb, nI_clamp (by omega)]
      refine aw_aload_n (pc' := 73) eX7_bringUp_72 rfl rfl trivial ?_
      refine aw_iload_n (pc' := 74) eX7_bringUp_73 rfl rfl ?_
      refine aw_iconst (pc' := 75) (v := 3) eX7_bringUp_74 rfl (by decide) ?_
      refine aw_iconst (pc' := 76) (v := 2) eX7_bringUp_75 rfl (by decide) ?_
      refine aw_callv (pc' := 79) (nn := 3) (c_change (d := d - 1) m9 b 3 2 (by omega) (by omega)) eX7_bringUp_76 rfl ⟨q986, q989, q62⟩ q988 q43 ⟨rfl, by decide +kernel, by decide +kernel, by decide +kernel⟩ rfl (by rw [m9.2.1]; exact ⟨rfl, rfl⟩) rfl ⟨by omega, by decide⟩ ⟨by omega, by omega⟩ rfl (Nat.le_of_ble_eq_true rfl) (fun v3 h4 hq5 => ?_)
      obtain ⟨rfl, hM1, hs2⟩ := hq5
      have hT6 := s9.tr hs2
      dsimp only [Option.toList, List.cons_append, List.nil_append]
      refine aw_pop (pc' := 80) eX7_bringUp_79 rfl rfl ?_
      refine aw_aload_n (pc' := 81) eX7_bringUp_80 rfl rfl trivial ?_
      refine aw_iload_n (pc' := 82) eX7_bringUp_81 rfl rfl ?_
      refine aw_iconst (pc' := 83) (v := 5) eX7_bringUp_82 rfl (by decide) ?_
      refine aw_aload_n (pc' := 84) eX7_bringUp_83 rfl rfl trivial ?_
      refine aw_Mref (pc' := 87) (kf := 0) 1 hM1 eX7_bringUp_84 rfl (by decide) rfl q789 ?_
      refine aw_bipush (pc' := 89) (v := 67) eX7_bringUp_87 rfl (by decide) ?_
      refine aw_MaldC (pc' := 90) 1 67 hM1 eX7_bringUp_89 rfl (by decide) (by unfold vp_in; decide) (by decide) ?_
      refine aw_iconst (pc' := 91) (v := 3) eX7_bringUp_90 rfl (by decide) ?_
      refine aw_iload_n (pc' := 92) eX7_bringUp_91 rfl rfl ?_
      refine aw_imul (pc' := 93) eX7_bringUp_92 rfl ?_
      refine aw_iadd (pc' := 94) eX7_bringUp_93 rfl ?_
      refine aw_bipush (pc' := 96) (v := 12) eX7_bringUp_94 rfl (by decide) ?_
      rw [e67]
      refine aw_irem (pc' := 97) eX7_bringUp_96 rfl (by decide) ?_
      refine aw_callv (pc' := 100) (nn := 3) (c_change (d := d - 1) hM1 b 5 _ (by omega) (by omega)) eX7_bringUp_97 rfl ⟨q986, q989, q62⟩ q988 q43 ⟨rfl, by decide +kernel, by decide +kernel, by decide +kernel⟩ rfl (by rw [hM1.2.1]; exact ⟨rfl, rfl⟩) rfl ⟨by omega, by decide⟩ ⟨by omega, by omega⟩ rfl (Nat.le_of_ble_eq_true rfl) (fun v9 h10 hq11 => ?_)
      obtain ⟨rfl, hM7, hs8⟩ := hq11
      have hT12 := hT6.tr hs8
      dsimp only [Option.toList, List.cons_append, List.nil_append]
      refine aw_pop (pc' := 101) eX7_bringUp_100 rfl rfl ?_
      refine aw_ret (v := none) eX7_bringUp_101 rfl (by omega) (by omega) rfl ?_
      exact ⟨rfl, _, hM7, by rw [eS]; exact k9.up.up, hT12⟩
  · refine aw_ret (v := none) eX7_bringUp_11 rfl (by omega) (by omega) rfl ?_
    exact ⟨rfl, _, hM6, by rw [sBring, if_neg (fun z => absurd z.1 (by first | exact c_8 | exact Int32.not_lt.mpr c_8))]; exact k3, hT11⟩
end M14
