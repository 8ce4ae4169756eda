/-! the model: when one comes up, by which current, after whom -/
section M16
variable {l : Launch} {G : GT} {u : Nat} {U U1 : MS} {d n m t : Nat} {g : Nat → Int32} {h : Hp} {Q : Option Value → Hp → Prop}
theorem MK.mg {n : Nat} {g g' : Nat → Int32} {U U1 : MS} (a : MK n g U U1) : MK n g' U (mg U1 g') :=
  ⟨mg_1 _ _, fun j hj => by rw [mg_ne (by unfold msv at hj; omega)]; exact a.2.1 j hj, a.2.2⟩
/-- a trial: kept in mind, gone on with, and as it was again -/
theorem MK.tri {n : Nat} {g g' : Nat → Int32} {U U1 U2 : MS} (a : MK n g U U1) (hn : 1 ≤ n) (b : MK 0 g' (mset U1 2 (U1.1 1)) U2) : MK n g U (mset U2 1 (U2.1 2)) := by
  refine ⟨?_, fun j hj => ?_, fun k hk => (b.2.2.1 k hk).trans (a.2.2.1 k hk), b.2.2.2.trans a.2.2.2⟩
  · rw [mset_eq, b.2.1 2 (by unfold msv; omega), mset_eq]
    exact a.1
  · have h1 : j ≠ 1 := by unfold msv at hj; omega
    have h2 : j ≠ 2 := by unfold msv at hj; omega
    rw [mset_ne h1, b.2.1 j (by unfold msv at hj ⊢; omega), mset_ne h2]
    exact a.2.1 j hj
theorem MK.m2 {n : Nat} {g : Nat → Int32} {U U1 : MS} (a : MK n g U U1) (hn : 1 ≤ n) : MK n g U (mset U1 2 (U1.1 1)) :=
  ⟨a.1, fun j hj => by rw [mset_ne (by unfold msv at hj; omega)]; exact a.2.1 j hj, a.2.2⟩
theorem MK.b0 {g : Nat → Int32} {U1 : MS} (e : U1.1 1 = g) : MK 0 g (mset U1 2 (U1.1 1)) (mset U1 2 (U1.1 1)) := ⟨e, fun _ _ => rfl, fun _ _ => rfl, rfl⟩
theorem mRd_K {n : Nat} {g' : Nat → Int32} {U U1 : MS} (a : MK n g' U U1) : mRd U1 = mRd U := by
  funext g i
  exact mRd_k a i
/-- how many days till one is there: of k days more, the n-th -/
def sCome (F : FT) (m : Nat) (st : Int32) (i : Nat) : Nat → Nat → Nat → (Nat → Int32) → Int32
  | 0, _, _, _ => -5
  | k + 1, n, t, g => if st ≤ g (10 * i + 3) then nI n else sCome F m st i k (n + 1) (t + 1) (sDay F m t g)

abbrev mX7_comes : MT := (RX7, cX7_comes, 5, (some .int), false)
theorem eX7_comes_0 : decode mX7_comes.2.1 0 = .ok (.aload_n 0, 1) := by decide +kernel
theorem eX7_comes_1 : decode mX7_comes.2.1 1 = .ok (.getfield 15, 3) := by decide +kernel
theorem eX7_comes_4 : decode mX7_comes.2.1 4 = .ok (.aload_n 0, 1) := by decide +kernel
theorem eX7_comes_5 : decode mX7_comes.2.1 5 = .ok (.getfield 19, 3) := by decide +kernel
theorem eX7_comes_8 : decode mX7_comes.2.1 8 = .ok (.invokestatic 76, 3) := by decide +kernel
theorem eX7_comes_11 : decode mX7_comes.2.1 11 = .ok (.bipush (-5), 2) := by decide +kernel
theorem eX7_comes_13 : decode mX7_comes.2.1 13 = .ok (.istore_n 3, 1) := by decide +kernel
theorem eX7_comes_14 : decode mX7_comes.2.1 14 = .ok (.iconst 0, 1) := by decide +kernel
theorem eX7_comes_15 : decode mX7_comes.2.1 15 = .ok (.istore 4, 2) := by decide +kernel
theorem eX7_comes_17 : decode mX7_comes.2.1 17 = .ok (.iload 4, 2) := by decide +kernel
theorem eX7_comes_19 : decode mX7_comes.2.1 19 = .ok (.bipush 60, 2) := by decide +kernel
theorem eX7_comes_21 : decode mX7_comes.2.1 21 = .ok (.if_icmp .gt 37, 3) := by decide +kernel
theorem eX7_comes_24 : decode mX7_comes.2.1 24 = .ok (.iload_n 3, 1) := by decide +kernel
theorem eX7_comes_25 : decode mX7_comes.2.1 25 = .ok (.bipush (-5), 2) := by decide +kernel
theorem eX7_comes_27 : decode mX7_comes.2.1 27 = .ok (.if_icmp .ne 31, 3) := by decide +kernel
theorem eX7_comes_30 : decode mX7_comes.2.1 30 = .ok (.aload_n 0, 1) := by decide +kernel
theorem eX7_comes_31 : decode mX7_comes.2.1 31 = .ok (.iload_n 1, 1) := by decide +kernel
theorem eX7_comes_32 : decode mX7_comes.2.1 32 = .ok (.iconst 3, 1) := by decide +kernel
theorem eX7_comes_33 : decode mX7_comes.2.1 33 = .ok (.invokevirtual 84, 3) := by decide +kernel
theorem eX7_comes_36 : decode mX7_comes.2.1 36 = .ok (.iload_n 2, 1) := by decide +kernel
theorem eX7_comes_37 : decode mX7_comes.2.1 37 = .ok (.if_icmp .lt 8, 3) := by decide +kernel
theorem eX7_comes_40 : decode mX7_comes.2.1 40 = .ok (.iload 4, 2) := by decide +kernel
theorem eX7_comes_42 : decode mX7_comes.2.1 42 = .ok (.goto 5, 3) := by decide +kernel
theorem eX7_comes_45 : decode mX7_comes.2.1 45 = .ok (.bipush (-5), 2) := by decide +kernel
theorem eX7_comes_47 : decode mX7_comes.2.1 47 = .ok (.istore_n 3, 1) := by decide +kernel
theorem eX7_comes_48 : decode mX7_comes.2.1 48 = .ok (.aload_n 0, 1) := by decide +kernel
theorem eX7_comes_49 : decode mX7_comes.2.1 49 = .ok (.invokevirtual 200, 3) := by decide +kernel
theorem eX7_comes_52 : decode mX7_comes.2.1 52 = .ok (.iinc 4 1, 3) := by decide +kernel
theorem eX7_comes_55 : decode mX7_comes.2.1 55 = .ok (.goto (-38), 3) := by decide +kernel
theorem eX7_comes_58 : decode mX7_comes.2.1 58 = .ok (.aload_n 0, 1) := by decide +kernel
theorem eX7_comes_59 : decode mX7_comes.2.1 59 = .ok (.getfield 19, 3) := by decide +kernel
theorem eX7_comes_62 : decode mX7_comes.2.1 62 = .ok (.aload_n 0, 1) := by decide +kernel
theorem eX7_comes_63 : decode mX7_comes.2.1 63 = .ok (.getfield 15, 3) := by decide +kernel
theorem eX7_comes_66 : decode mX7_comes.2.1 66 = .ok (.invokestatic 76, 3) := by decide +kernel
theorem eX7_comes_69 : decode mX7_comes.2.1 69 = .ok (.iload_n 3, 1) := by decide +kernel
theorem eX7_comes_70 : decode mX7_comes.2.1 70 = .ok (.ireturn, 1) := by decide +kernel
theorem nI_gt {a b : Nat} (ha : a < 2 ^ 31) (hb : b < 2 ^ 31) (c : nI a > nI b) : b < a := (nI_ltI hb ha).mp c
theorem m5ne {q : Nat} (hq : q < 2 ^ 31) : ¬ nI q = -5 := fun z => by
  have y := congrArg Int32.toInt z
  rw [nI_toInt hq, show (-5 : Int32).toInt = -5 from by decide] at y
  omega
theorem lp_X7_comes (hz : mZ U) {F : FT} (hF : mRd U = F) (hd : 25 ≤ d) {i : Nat} (hi : i < 6) {st : Int32} {h0 : Hp} : ∀ (j q t : Nat) (y : Int32) (g : Nat → Int32) (h : Hp) (U1 : MS), q + j = 61 → y = nI q → gOk g m t → t + j ≤ 1073741824 → MK n g U U1 → MAt h u U1 → Same u 19 h0 h → (∀ h' U' g' y', MAt h' u U' → MK n g' U U' → Same u 19 h0 h' → AW l G mX7_comes d 0 0 Q 0 0 h' [some (.ref u), some (.int (nI i)), some (.int st), some (.int (sCome F m st i j q t g)), some (.int y')] [] 58) → AW l G mX7_comes d 0 0 Q 0 0 h [some (.ref u), some (.int (nI i)), some (.int st), some (.int (-5)), some (.int y)] [] 17 := by
  intro j
  induction j with
  | zero =>
    intro q t y g h U1 hqj hy hg htj hk hM hs hQ
    subst hy
    obtain rfl : q = 61 := by omega
    refine aw_iload (pc' := 19) eX7_comes_17 rfl rfl ?_
    refine aw_bipush (v := 60) (pc' := 21) eX7_comes_19 rfl (by decide) ?_
    refine aw_icmp_gt (pc' := 24) (tgt := 58) eX7_comes_21 rfl (by decide) (fun c_21 => ?_) (fun c_21 => ?_)
    · exact hQ _ _ _ _ hM hk hs
    · exact absurd (show nI 61 > 60 by decide) c_21
  | succ j ih =>
    intro q t y g h U1 hqj hy hg htj hk hM hs hQ
    subst hy
    refine aw_iload (pc' := 19) eX7_comes_17 rfl rfl ?_
    refine aw_bipush (pc' := 21) (v := 60) eX7_comes_19 rfl (by decide) ?_
    refine aw_icmp_gt (pc' := 24) (tgt := 58) eX7_comes_21 rfl (by decide) (fun c_21 => ?_) (fun c_21 => ?_)
    · exact absurd (nI_gt (a := q) (b := 60) (by omega) (by omega) c_21) (by omega)
    · refine aw_iload_n (pc' := 25) eX7_comes_24 rfl rfl ?_
      refine aw_bipush (pc' := 27) (v := -5) eX7_comes_25 rfl (by decide) ?_
      refine aw_icmp_ne (pc' := 30) (tgt := 58) eX7_comes_27 rfl (by decide) (fun c_27 => ?_) (fun c_27 => ?_)
      · exact absurd rfl c_27
      · refine aw_aload_n (pc' := 31) eX7_comes_30 rfl rfl trivial ?_
        refine aw_iload_n (pc' := 32) eX7_comes_31 rfl rfl ?_
        refine aw_iconst (pc' := 33) (v := 3) eX7_comes_32 rfl (by decide) ?_
        refine aw_callv (pc' := 36) (nn := 2) (c_one (d := d - 1) hM i 3 (by omega) (by omega)) eX7_comes_33 rfl ⟨q901, q904, q62⟩ q903 q22 ⟨rfl, by decide +kernel, by decide +kernel, by decide +kernel⟩ rfl (by rw [hM.2.1]; exact ⟨rfl, rfl⟩) rfl ⟨by omega, by decide⟩ ⟨by omega, by omega⟩ rfl (Nat.le_of_ble_eq_true rfl) (fun v1 h2 hq3 => ?_)
        obtain ⟨rfl, rfl⟩ := hq3
        dsimp only [Option.toList, List.cons_append, List.nil_append]
        refine aw_iload_n (pc' := 37) eX7_comes_36 rfl rfl ?_
        refine aw_icmp_lt (pc' := 40) (tgt := 45) eX7_comes_37 rfl (by decide) (fun c_37 => ?_) (fun c_37 => ?_)
        · refine aw_bipush (pc' := 47) (v := -5) eX7_comes_45 rfl (by decide) ?_
          refine aw_istore_n (pc' := 48) eX7_comes_47 rfl (by decide) ?_
          dsimp only [zst, zst2, zcut]
          refine aw_aload_n (pc' := 49) eX7_comes_48 rfl rfl trivial ?_
          refine aw_callv (pc' := 52) (nn := 0) (c_X7_day (d := d - 1) hk hM hz hg (by omega)) eX7_comes_49 rfl ⟨q970, q973, q62⟩ q972 q39 ⟨rfl, by decide +kernel, by decide +kernel, by decide +kernel⟩ rfl (by rw [hM.2.1]; exact ⟨rfl, rfl⟩) rfl ⟨by omega, by decide⟩ ⟨by omega, by omega⟩ rfl (Nat.le_of_ble_eq_true rfl) (fun v8 h9 hq10 => ?_)
          obtain ⟨rfl, V6, hM4, k7, hs5⟩ := hq10
          dsimp only [Option.toList, List.cons_append, List.nil_append]
          refine aw_iinc (pc' := 55) eX7_comes_52 rfl rfl rfl (by decide) ?_
          dsimp only [zst, zst2, zcut]
          refine aw_goto eX7_comes_55 (by decide) (tgt := 17) ?_
          rw [hk.1] at c_37
          have e : sCome F m st i (j + 1) q t g = sCome F m st i j (q + 1) (t + 1) (sDay F m t g) := by rw [sCome]; exact if_neg (Int32.not_le.mpr c_37)
          rw [e] at hQ
          rw [hF] at k7
          exact ih (q + 1) (t + 1) _ _ _ _ (by omega) (nI_inc q) (sDay_ok hg (by omega)) (by omega) k7 hM4 (hs.tr hs5) hQ
        · refine aw_iload (pc' := 42) eX7_comes_40 rfl rfl ?_
          refine aw_goto eX7_comes_42 (by decide) (tgt := 47) ?_
          refine aw_istore_n (pc' := 48) eX7_comes_47 rfl (by decide) ?_
          dsimp only [zst, zst2, zcut]
          refine aw_aload_n (pc' := 49) eX7_comes_48 rfl rfl trivial ?_
          refine aw_callv (pc' := 52) (nn := 0) (c_X7_day (d := d - 1) hk hM hz hg (by omega)) eX7_comes_49 rfl ⟨q970, q973, q62⟩ q972 q39 ⟨rfl, by decide +kernel, by decide +kernel, by decide +kernel⟩ rfl (by rw [hM.2.1]; exact ⟨rfl, rfl⟩) rfl ⟨by omega, by decide⟩ ⟨by omega, by omega⟩ rfl (Nat.le_of_ble_eq_true rfl) (fun v15 h16 hq17 => ?_)
          obtain ⟨rfl, V13, hM11, k14, hs12⟩ := hq17
          dsimp only [Option.toList, List.cons_append, List.nil_append]
          refine aw_iinc (pc' := 55) eX7_comes_52 rfl rfl rfl (by decide) ?_
          dsimp only [zst, zst2, zcut]
          refine aw_goto eX7_comes_55 (by decide) (tgt := 17) ?_
          refine aw_iload (pc' := 19) eX7_comes_17 rfl rfl ?_
          refine aw_bipush (pc' := 21) (v := 60) eX7_comes_19 rfl (by decide) ?_
          refine aw_icmp_gt (pc' := 24) (tgt := 58) eX7_comes_21 rfl (by decide) (fun c_21 => ?_) (fun c_21 => ?_)
          · rw [hk.1] at c_37
            have e : sCome F m st i (j + 1) q t g = nI q := by rw [sCome]; exact if_pos (by first | exact c_37 | exact Int32.not_lt.mp c_37)
            rw [e] at hQ
            exact hQ _ _ _ _ hM11 k14 (hs.tr hs12)
          · refine aw_iload_n (pc' := 25) eX7_comes_24 rfl rfl ?_
            refine aw_bipush (pc' := 27) (v := -5) eX7_comes_25 rfl (by decide) ?_
            refine aw_icmp_ne (pc' := 30) (tgt := 58) eX7_comes_27 rfl (by decide) (fun c_27 => ?_) (fun c_27 => ?_)
            · rw [hk.1] at c_37
              have e : sCome F m st i (j + 1) q t g = nI q := by rw [sCome]; exact if_pos (by first | exact c_37 | exact Int32.not_lt.mp c_37)
              rw [e] at hQ
              exact hQ _ _ _ _ hM11 k14 (hs.tr hs12)
            · exact absurd (show nI q = -5 from by first | exact c_27 | exact Decidable.not_not.mp c_27) (m5ne (by omega))
theorem c_X7_comes (hk : MK n g U U1) (hM : MAt h u U1) (hz : mZ U) (hg : gOk g m t) (hn : 1 ≤ n) {i : Nat} (hi : i < 6) (st : Int32) (ht6 : t ≤ 1000000000) (hd : 25 ≤ d) : Ct l G mX7_comes yX7_comes d 0 0 [.ref u, .int (nI i), .int st] h (fun r h' => r = some (.int (sCome (mRd U) m st i 61 0 t g)) ∧ ∃ U', MAt h' u U' ∧ MK n g U U' ∧ Same u 19 h h') := by
  refine ct_of (lv := [some (.ref u), some (.int (nI i)), some (.int st), none, none]) (by decide +kernel) rfl (fun z => by cases z) (fun _ => rfl) (fun _ => Nat.le_of_ble_eq_true rfl) ?_
  refine aw_aload_n (pc' := 1) eX7_comes_0 rfl rfl trivial ?_
  refine aw_Mref (pc' := 4) (kf := 0) 1 hM eX7_comes_1 rfl (by decide) rfl q789 ?_
  refine aw_aload_n (pc' := 5) eX7_comes_4 rfl rfl trivial ?_
  refine aw_Mref (pc' := 8) (kf := 1) 2 hM eX7_comes_5 rfl (by decide) rfl q790 ?_
  refine aw_calls (pc' := 11) (nn := 2) (c_X7_move (d := d - 1) hM 1 2 (by decide) (by decide) (by decide) (by omega)) eX7_comes_8 rfl ⟨q879, q881, q62⟩ q880 ⟨by decide +kernel, by decide +kernel, by decide +kernel⟩ rfl ⟨by omega, by decide⟩ ⟨by omega, by omega⟩ rfl (Nat.le_of_ble_eq_true rfl) (fun v3 h4 hq5 => ?_)
  obtain ⟨rfl, hM1, hs2⟩ := hq5
  dsimp only [Option.toList, List.cons_append, List.nil_append]
  refine aw_bipush (pc' := 13) (v := -5) eX7_comes_11 rfl (by decide) ?_
  refine aw_istore_n (pc' := 14) eX7_comes_13 rfl (by decide) ?_
  dsimp only [zst, zst2, zcut]
  refine aw_iconst (pc' := 15) (v := 0) eX7_comes_14 rfl (by decide) ?_
  refine aw_istore (pc' := 17) eX7_comes_15 rfl (by decide) ?_
  dsimp only [zst, zst2, zcut]
  have b0 := MK.b0 hk.1
  refine lp_X7_comes (n := 0) (U := mset U1 2 (U1.1 1)) (F := mRd U) (hz.k (hk.m2 hn)) (mRd_K (hk.m2 hn)) (by omega) hi 61 0 t _ g _ _ (by omega) rfl hg (by omega) b0 hM1 hs2 (fun h' U' g' y' m9 k9 s9 => ?_)
  refine aw_aload_n (pc' := 59) eX7_comes_58 rfl rfl trivial ?_
  refine aw_Mref (pc' := 62) (kf := 1) 2 m9 eX7_comes_59 rfl (by decide) rfl q790 ?_
  refine aw_aload_n (pc' := 63) eX7_comes_62 rfl rfl trivial ?_
  refine aw_Mref (pc' := 66) (kf := 0) 1 m9 eX7_comes_63 rfl (by decide) rfl q789 ?_
  refine aw_calls (pc' := 69) (nn := 2) (c_X7_move (d := d - 1) m9 2 1 (by decide) (by decide) (by decide) (by omega)) eX7_comes_66 rfl ⟨q879, q881, q62⟩ q880 ⟨by decide +kernel, by decide +kernel, by decide +kernel⟩ rfl ⟨by omega, by decide⟩ ⟨by omega, by omega⟩ rfl (Nat.le_of_ble_eq_true rfl) (fun v3 h4 hq5 => ?_)
  obtain ⟨rfl, hM1, hs2⟩ := hq5
  have hT6 := s9.tr hs2
  dsimp only [Option.toList, List.cons_append, List.nil_append]
  refine aw_iload_n (pc' := 70) eX7_comes_69 rfl rfl ?_
  refine aw_ret (v := some (.int _)) eX7_comes_70 ⟨rfl, rfl⟩ (by omega) (by omega) rfl ?_
  exact ⟨rfl, _, hM1, hk.tri hn k9, hT6⟩
end M16
