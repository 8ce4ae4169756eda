/-! the model: after whom; of, told, pass, on -/
section M18
variable {l : Launch} {G : GT} {u : Nat} {U U1 : MS} {d n m t : Nat} {g : Nat → Int32} {h : Hp} {Q : Option Value → Hp → Prop}
theorem sSays_ok {k : Nat} (hk : k < 6) (hg : gOk g m t) : gOk (sSays g k) m t := gOk_of hg (sSays_hi (by omega) hk) (sSays_hi (by omega) hk) (sSays_hi (by omega) hk)
theorem sSays_undo {k : Nat} (h0 : g (10 * k + 3) = 0) : upd (upd (sSays g k) (10 * k + 3) 0) (10 * k + 4) (g (10 * k + 4)) = g := by
  funext j
  rw [sSays, if_pos h0]
  simp only [upd_if]
  by_cases h4 : j = 10 * k + 4
  · rw [if_pos h4, h4]
  · rw [if_neg h4]
    by_cases h3 : j = 10 * k + 3
    · rw [if_pos h3, h3, h0]
    · rw [if_neg h3, if_neg h4, if_neg h3]

abbrev mX7_news : MT := (RX7, cX7_news, 7, (some .int), false)
theorem eX7_news_0 : decode mX7_news.2.1 0 = .ok (.bipush (-5), 2) := by decide +kernel
theorem eX7_news_2 : decode mX7_news.2.1 2 = .ok (.istore_n 2, 1) := by decide +kernel
theorem eX7_news_3 : decode mX7_news.2.1 3 = .ok (.aload_n 0, 1) := by decide +kernel
theorem eX7_news_4 : decode mX7_news.2.1 4 = .ok (.iload_n 1, 1) := by decide +kernel
theorem eX7_news_5 : decode mX7_news.2.1 5 = .ok (.iconst 2, 1) := by decide +kernel
theorem eX7_news_6 : decode mX7_news.2.1 6 = .ok (.invokevirtual 102, 3) := by decide +kernel
theorem eX7_news_9 : decode mX7_news.2.1 9 = .ok (.invokestatic 203, 3) := by decide +kernel
theorem eX7_news_12 : decode mX7_news.2.1 12 = .ok (.istore_n 3, 1) := by decide +kernel
theorem eX7_news_13 : decode mX7_news.2.1 13 = .ok (.iconst 0, 1) := by decide +kernel
theorem eX7_news_14 : decode mX7_news.2.1 14 = .ok (.istore 4, 2) := by decide +kernel
theorem eX7_news_16 : decode mX7_news.2.1 16 = .ok (.iload 4, 2) := by decide +kernel
theorem eX7_news_18 : decode mX7_news.2.1 18 = .ok (.aload_n 0, 1) := by decide +kernel
theorem eX7_news_19 : decode mX7_news.2.1 19 = .ok (.getfield 15, 3) := by decide +kernel
theorem eX7_news_22 : decode mX7_news.2.1 22 = .ok (.bipush 60, 2) := by decide +kernel
theorem eX7_news_24 : decode mX7_news.2.1 24 = .ok (.iaload, 1) := by decide +kernel
theorem eX7_news_25 : decode mX7_news.2.1 25 = .ok (.if_icmp .ge 84, 3) := by decide +kernel
theorem eX7_news_28 : decode mX7_news.2.1 28 = .ok (.aload_n 0, 1) := by decide +kernel
theorem eX7_news_29 : decode mX7_news.2.1 29 = .ok (.iload 4, 2) := by decide +kernel
theorem eX7_news_31 : decode mX7_news.2.1 31 = .ok (.iconst 0, 1) := by decide +kernel
theorem eX7_news_32 : decode mX7_news.2.1 32 = .ok (.invokevirtual 105, 3) := by decide +kernel
theorem eX7_news_35 : decode mX7_news.2.1 35 = .ok (.ifCond .eq 68, 3) := by decide +kernel
theorem eX7_news_38 : decode mX7_news.2.1 38 = .ok (.aload_n 0, 1) := by decide +kernel
theorem eX7_news_39 : decode mX7_news.2.1 39 = .ok (.iload 4, 2) := by decide +kernel
theorem eX7_news_41 : decode mX7_news.2.1 41 = .ok (.iconst 4, 1) := by decide +kernel
theorem eX7_news_42 : decode mX7_news.2.1 42 = .ok (.invokevirtual 84, 3) := by decide +kernel
theorem eX7_news_45 : decode mX7_news.2.1 45 = .ok (.istore 5, 2) := by decide +kernel
theorem eX7_news_47 : decode mX7_news.2.1 47 = .ok (.aload_n 0, 1) := by decide +kernel
theorem eX7_news_48 : decode mX7_news.2.1 48 = .ok (.iload 4, 2) := by decide +kernel
theorem eX7_news_50 : decode mX7_news.2.1 50 = .ok (.invokevirtual 113, 3) := by decide +kernel
theorem eX7_news_53 : decode mX7_news.2.1 53 = .ok (.aload_n 0, 1) := by decide +kernel
theorem eX7_news_54 : decode mX7_news.2.1 54 = .ok (.iload_n 1, 1) := by decide +kernel
theorem eX7_news_55 : decode mX7_news.2.1 55 = .ok (.iconst 2, 1) := by decide +kernel
theorem eX7_news_56 : decode mX7_news.2.1 56 = .ok (.invokevirtual 102, 3) := by decide +kernel
theorem eX7_news_59 : decode mX7_news.2.1 59 = .ok (.invokestatic 203, 3) := by decide +kernel
theorem eX7_news_62 : decode mX7_news.2.1 62 = .ok (.istore 6, 2) := by decide +kernel
theorem eX7_news_64 : decode mX7_news.2.1 64 = .ok (.aload_n 0, 1) := by decide +kernel
theorem eX7_news_65 : decode mX7_news.2.1 65 = .ok (.iload 4, 2) := by decide +kernel
theorem eX7_news_67 : decode mX7_news.2.1 67 = .ok (.iconst 3, 1) := by decide +kernel
theorem eX7_news_68 : decode mX7_news.2.1 68 = .ok (.iconst 0, 1) := by decide +kernel
theorem eX7_news_69 : decode mX7_news.2.1 69 = .ok (.invokevirtual 109, 3) := by decide +kernel
theorem eX7_news_72 : decode mX7_news.2.1 72 = .ok (.pop, 1) := by decide +kernel
theorem eX7_news_73 : decode mX7_news.2.1 73 = .ok (.aload_n 0, 1) := by decide +kernel
theorem eX7_news_74 : decode mX7_news.2.1 74 = .ok (.iload 4, 2) := by decide +kernel
theorem eX7_news_76 : decode mX7_news.2.1 76 = .ok (.iconst 4, 1) := by decide +kernel
theorem eX7_news_77 : decode mX7_news.2.1 77 = .ok (.iload 5, 2) := by decide +kernel
theorem eX7_news_79 : decode mX7_news.2.1 79 = .ok (.invokevirtual 109, 3) := by decide +kernel
theorem eX7_news_82 : decode mX7_news.2.1 82 = .ok (.pop, 1) := by decide +kernel
theorem eX7_news_83 : decode mX7_news.2.1 83 = .ok (.iload 6, 2) := by decide +kernel
theorem eX7_news_85 : decode mX7_news.2.1 85 = .ok (.iload_n 3, 1) := by decide +kernel
theorem eX7_news_86 : decode mX7_news.2.1 86 = .ok (.if_icmp .ge 8, 3) := by decide +kernel
theorem eX7_news_89 : decode mX7_news.2.1 89 = .ok (.iload 4, 2) := by decide +kernel
theorem eX7_news_91 : decode mX7_news.2.1 91 = .ok (.goto 4, 3) := by decide +kernel
theorem eX7_news_94 : decode mX7_news.2.1 94 = .ok (.iload_n 2, 1) := by decide +kernel
theorem eX7_news_95 : decode mX7_news.2.1 95 = .ok (.istore_n 2, 1) := by decide +kernel
theorem eX7_news_96 : decode mX7_news.2.1 96 = .ok (.iload 6, 2) := by decide +kernel
theorem eX7_news_98 : decode mX7_news.2.1 98 = .ok (.iload_n 3, 1) := by decide +kernel
theorem eX7_news_99 : decode mX7_news.2.1 99 = .ok (.invokestatic 186, 3) := by decide +kernel
theorem eX7_news_102 : decode mX7_news.2.1 102 = .ok (.istore_n 3, 1) := by decide +kernel
theorem eX7_news_103 : decode mX7_news.2.1 103 = .ok (.iinc 4 1, 3) := by decide +kernel
theorem eX7_news_106 : decode mX7_news.2.1 106 = .ok (.goto (-90), 3) := by decide +kernel
theorem eX7_news_109 : decode mX7_news.2.1 109 = .ok (.iload_n 2, 1) := by decide +kernel
theorem eX7_news_110 : decode mX7_news.2.1 110 = .ok (.ireturn, 1) := by decide +kernel
theorem lp_X7_news (hz : mZ U) (hg : gOk g m t) (hn : 1 ≤ n) {i : Nat} (hi : i < 6) (ht6 : t ≤ 1000000000) (hd : 26 ≤ d) {h0 : Hp} (hQ : ∀ h' U', MAt h' u U' → MK n g U U' → Same u 19 h0 h' → Q (some (.int (sNews (mRd U) g m t i m).1)) h') : ∀ (j k : Nat) (y b e : Int32) (o5 o6 : Option Value) (h : Hp) (U1 : MS), j = m - k → k ≤ m → y = nI k → b = (sNews (mRd U) g m t i k).1 → e = (sNews (mRd U) g m t i k).2 → MK n g U U1 → MAt h u U1 → Same u 19 h0 h → AW l G mX7_news d 0 0 Q 0 0 h [some (.ref u), some (.int (nI i)), some (.int b), some (.int e), some (.int y), o5, o6] [] 16 := by
  have hgg := hg
  obtain ⟨hm, hm6, ht, ht2, hgq⟩ := hgg
  intro j
  induction j using Nat.strongRecOn with
  | _ j ih =>
    intro k y b e o5 o6 h U1 hj hkm hy hb he hk hM hs
    subst hy hb he
    refine aw_iload (pc' := 18) eX7_news_16 rfl rfl ?_
    refine aw_aload_n (pc' := 19) eX7_news_18 rfl rfl trivial ?_
    refine aw_Mref (pc' := 22) (kf := 0) 1 hM eX7_news_19 rfl (by decide) rfl q789 ?_
    refine aw_bipush (pc' := 24) (v := 60) eX7_news_22 rfl (by decide) ?_
    refine aw_MaldC (pc' := 25) 1 60 hM eX7_news_24 rfl (by decide) (by unfold vp_in; decide) (by decide) ?_
    refine aw_icmp_ge (pc' := 28) (tgt := 109) eX7_news_25 rfl (by decide) (fun c_25 => ?_) (fun c_25 => ?_)
    · rw [hk.1, hm] at c_25
      have c9 := ge_nI (by omega) (by omega) c_25
      obtain rfl : k = m := by omega
      refine aw_iload_n (pc' := 110) eX7_news_109 rfl rfl ?_
      refine aw_ret (v := some (.int _)) eX7_news_110 ⟨rfl, rfl⟩ (by omega) (by omega) rfl ?_
      exact hQ _ _ hM hk hs
    · rw [hk.1, hm] at c_25
      have c9 := nge_nI (by omega) (by omega) c_25
      refine aw_aload_n (pc' := 29) eX7_news_28 rfl rfl trivial ?_
      refine aw_iload (pc' := 31) eX7_news_29 rfl rfl ?_
      refine aw_iconst (pc' := 32) (v := 0) eX7_news_31 rfl (by decide) ?_
      refine aw_callv (pc' := 35) (nn := 2) (c_isAs (d := d - 1) hM k 0 (by omega) (by omega)) eX7_news_32 rfl ⟨q957, q960, q62⟩ q959 q36 ⟨rfl, by decide +kernel, by decide +kernel, by decide +kernel⟩ rfl (by rw [hM.2.1]; exact ⟨rfl, rfl⟩) rfl ⟨by omega, by decide⟩ ⟨by omega, by omega⟩ rfl (Nat.le_of_ble_eq_true rfl) (fun v1 h2 hq3 => ?_)
      obtain ⟨rfl, rfl⟩ := hq3
      dsimp only [Option.toList, List.cons_append, List.nil_append]
      refine aw_if_eq (pc' := 38) (tgt := 103) eX7_news_35 rfl (by decide) (fun c_35 => ?_) (fun c_35 => ?_)
      · refine aw_iinc (pc' := 106) eX7_news_103 rfl rfl rfl (by decide) ?_
        dsimp only [zst, zst2, zcut]
        refine aw_goto eX7_news_106 (by decide) (tgt := 16) ?_
        simp only [zb_eq0, Bool.not_eq_false, Bool.not_eq_true, decide_eq_true_eq, decide_eq_false_iff_not, Decidable.not_not, hk.1] at c_35
        have e : sNews (mRd U) g m t i (k + 1) = sNews (mRd U) g m t i k := by rw [sNews]; exact if_neg c_35
        exact ih (m - (k + 1)) (by omega) (k + 1) _ _ _ _ _ _ _ rfl (by omega) (nI_inc k) (by rw [e]) (by rw [e]) hk hM hs
      · simp only [zb_eq0, Bool.not_eq_false, Bool.not_eq_true, decide_eq_true_eq, decide_eq_false_iff_not, Decidable.not_not, hk.1] at c_35
        refine aw_aload_n (pc' := 39) eX7_news_38 rfl rfl trivial ?_
        refine aw_iload (pc' := 41) eX7_news_39 rfl rfl ?_
        refine aw_iconst (pc' := 42) (v := 4) eX7_news_41 rfl (by decide) ?_
        refine aw_callv (pc' := 45) (nn := 2) (c_one (d := d - 1) hM k 4 (by omega) (by omega)) eX7_news_42 rfl ⟨q901, q904, q62⟩ q903 q22 ⟨rfl, by decide +kernel, by decide +kernel, by decide +kernel⟩ rfl (by rw [hM.2.1]; exact ⟨rfl, rfl⟩) rfl ⟨by omega, by decide⟩ ⟨by omega, by omega⟩ rfl (Nat.le_of_ble_eq_true rfl) (fun v4 h5 hq6 => ?_)
        obtain ⟨rfl, rfl⟩ := hq6
        dsimp only [Option.toList, List.cons_append, List.nil_append]
        refine aw_istore (pc' := 47) eX7_news_45 rfl (by decide) ?_
        dsimp only [zst, zst2, zcut]
        refine aw_aload_n (pc' := 48) eX7_news_47 rfl rfl trivial ?_
        refine aw_iload (pc' := 50) eX7_news_48 rfl rfl ?_
        refine aw_callv (pc' := 53) (nn := 1) (c_X7_says (d := d - 1) hM k (by omega) (by omega)) eX7_news_50 rfl ⟨q997, q1000, q62⟩ q999 q45 ⟨rfl, by decide +kernel, by decide +kernel, by decide +kernel⟩ rfl (by rw [hM.2.1]; exact ⟨rfl, rfl⟩) rfl ⟨by omega, by decide⟩ ⟨by omega, by omega⟩ rfl (Nat.le_of_ble_eq_true rfl) (fun v9 h10 hq11 => ?_)
        obtain ⟨rfl, hM7, hs8⟩ := hq11
        dsimp only [Option.toList, List.cons_append, List.nil_append]
        have kc : MK n (sSays g k) U (mg U1 (sSays (U1.1 1) k)) := by rw [hk.1]; exact hk.mg
        refine aw_aload_n (pc' := 54) eX7_news_53 rfl rfl trivial ?_
        refine aw_iload_n (pc' := 55) eX7_news_54 rfl rfl ?_
        refine aw_iconst (pc' := 56) (v := 2) eX7_news_55 rfl (by decide) ?_
        refine aw_callv (pc' := 59) (nn := 2) (c_X7_comes (d := d - 1) kc hM7 hz (sSays_ok (by omega) hg) (n := n) (by omega) (i := i) (by omega) 2 (by omega) (by omega)) eX7_news_56 rfl ⟨q966, q969, q62⟩ q968 q38 ⟨rfl, by decide +kernel, by decide +kernel, by decide +kernel⟩ rfl (by rw [hM7.2.1]; exact ⟨rfl, rfl⟩) rfl ⟨by omega, by decide⟩ ⟨by omega, by omega⟩ rfl (Nat.le_of_ble_eq_true rfl) (fun v16 h17 hq18 => ?_)
        obtain ⟨rfl, V14, hM12, k15, hs13⟩ := hq18
        have hT19 := hs8.tr hs13
        dsimp only [Option.toList, List.cons_append, List.nil_append]
        refine aw_calls (pc' := 62) (nn := 1) (c_X7_late (d := d - 1) _ (by omega)) eX7_news_59 rfl ⟨q990, q992, q62⟩ q991 ⟨by decide +kernel, by decide +kernel, by decide +kernel⟩ rfl ⟨by omega, by decide⟩ ⟨by omega, by omega⟩ rfl (Nat.le_of_ble_eq_true rfl) (fun v20 h21 hq22 => ?_)
        obtain ⟨rfl, rfl⟩ := hq22
        dsimp only [Option.toList, List.cons_append, List.nil_append]
        refine aw_istore (pc' := 64) eX7_news_62 rfl (by decide) ?_
        dsimp only [zst, zst2, zcut]
        refine aw_aload_n (pc' := 65) eX7_news_64 rfl rfl trivial ?_
        refine aw_iload (pc' := 67) eX7_news_65 rfl rfl ?_
        refine aw_iconst (pc' := 68) (v := 3) eX7_news_67 rfl (by decide) ?_
        refine aw_iconst (pc' := 69) (v := 0) eX7_news_68 rfl (by decide) ?_
        refine aw_callv (pc' := 72) (nn := 3) (c_change (d := d - 1) hM12 k 3 _ (by omega) (by omega)) eX7_news_69 rfl ⟨q986, q989, q62⟩ q988 q43 ⟨rfl, by decide +kernel, by decide +kernel, by decide +kernel⟩ rfl (by rw [hM12.2.1]; exact ⟨rfl, rfl⟩) rfl ⟨by omega, by decide⟩ ⟨by omega, by omega⟩ rfl (Nat.le_of_ble_eq_true rfl) (fun v25 h26 hq27 => ?_)
        obtain ⟨rfl, hM23, hs24⟩ := hq27
        have hT28 := hT19.tr hs24
        dsimp only [Option.toList, List.cons_append, List.nil_append]
        refine aw_pop (pc' := 73) eX7_news_72 rfl rfl ?_
        refine aw_aload_n (pc' := 74) eX7_news_73 rfl rfl trivial ?_
        refine aw_iload (pc' := 76) eX7_news_74 rfl rfl ?_
        refine aw_iconst (pc' := 77) (v := 4) eX7_news_76 rfl (by decide) ?_
        refine aw_iload (pc' := 79) eX7_news_77 rfl rfl ?_
        refine aw_callv (pc' := 82) (nn := 3) (c_change (d := d - 1) hM23 k 4 _ (by omega) (by omega)) eX7_news_79 rfl ⟨q986, q989, q62⟩ q988 q43 ⟨rfl, by decide +kernel, by decide +kernel, by decide +kernel⟩ rfl (by rw [hM23.2.1]; exact ⟨rfl, rfl⟩) rfl ⟨by omega, by decide⟩ ⟨by omega, by omega⟩ rfl (Nat.le_of_ble_eq_true rfl) (fun v31 h32 hq33 => ?_)
        obtain ⟨rfl, hM29, hs30⟩ := hq33
        have hT34 := hT28.tr hs30
        dsimp only [Option.toList, List.cons_append, List.nil_append]
        refine aw_pop (pc' := 83) eX7_news_82 rfl rfl ?_
        refine aw_iload (pc' := 85) eX7_news_83 rfl rfl ?_
        refine aw_iload_n (pc' := 86) eX7_news_85 rfl rfl ?_
        refine aw_icmp_ge (pc' := 89) (tgt := 94) eX7_news_86 rfl (by decide) (fun c_86 => ?_) (fun c_86 => ?_)
        · refine aw_iload_n (pc' := 95) eX7_news_94 rfl rfl ?_
          refine aw_istore_n (pc' := 96) eX7_news_95 rfl (by decide) ?_
          dsimp only [zst, zst2, zcut]
          refine aw_iload (pc' := 98) eX7_news_96 rfl rfl ?_
          refine aw_iload_n (pc' := 99) eX7_news_98 rfl rfl ?_
          refine aw_mmin (pc' := 102) eX7_news_99 rfl q961 q326 q63 q327 (by omega) ⟨by omega, by omega⟩ (Nat.le_of_ble_eq_true rfl) ?_
          refine aw_istore_n (pc' := 103) eX7_news_102 rfl (by decide) ?_
          dsimp only [zst, zst2, zcut]
          refine aw_iinc (pc' := 106) eX7_news_103 rfl rfl rfl (by decide) ?_
          dsimp only [zst, zst2, zcut]
          refine aw_goto eX7_news_106 (by decide) (tgt := 16) ?_
          have k9 : MK n (upd (upd (sSays g k) (10 * k + 3) 0) (10 * k + 4) (U1.1 1 (10 * k + 4))) U (mup (mup V14 1 (10 * k + 3) 0) 1 (10 * k + 4) (U1.1 1 (10 * k + 4))) := ((k15).up).up
          have eg : upd (upd (sSays g k) (10 * k + 3) 0) (10 * k + 4) (U1.1 1 (10 * k + 4)) = g := by rw [hk.1]; exact sSays_undo c_35
          rw [eg] at k9
          have e : sNews (mRd U) g m t i (k + 1) = (if sLate (sCome (mRd U) m 2 i 61 0 t (sSays g k)) < (sNews (mRd U) g m t i k).2 then nI k else (sNews (mRd U) g m t i k).1, if (sNews (mRd U) g m t i k).2 < sLate (sCome (mRd U) m 2 i 61 0 t (sSays g k)) then (sNews (mRd U) g m t i k).2 else sLate (sCome (mRd U) m 2 i 61 0 t (sSays g k))) := by rw [sNews]; exact if_pos c_35
          exact ih (m - (k + 1)) (by omega) (k + 1) _ _ _ _ _ _ _ rfl (by omega) (nI_inc k) (by rw [e]; exact (if_neg (by first | exact Int32.not_lt.mpr c_86 | exact c_86)).symm) (by rw [e]) k9 hM29 (hs.tr hT34)
        · refine aw_iload (pc' := 91) eX7_news_89 rfl rfl ?_
          refine aw_goto eX7_news_91 (by decide) (tgt := 95) ?_
          refine aw_istore_n (pc' := 96) eX7_news_95 rfl (by decide) ?_
          dsimp only [zst, zst2, zcut]
          refine aw_iload (pc' := 98) eX7_news_96 rfl rfl ?_
          refine aw_iload_n (pc' := 99) eX7_news_98 rfl rfl ?_
          refine aw_mmin (pc' := 102) eX7_news_99 rfl q961 q326 q63 q327 (by omega) ⟨by omega, by omega⟩ (Nat.le_of_ble_eq_true rfl) ?_
          refine aw_istore_n (pc' := 103) eX7_news_102 rfl (by decide) ?_
          dsimp only [zst, zst2, zcut]
          refine aw_iinc (pc' := 106) eX7_news_103 rfl rfl rfl (by decide) ?_
          dsimp only [zst, zst2, zcut]
          refine aw_goto eX7_news_106 (by decide) (tgt := 16) ?_
          have k9 : MK n (upd (upd (sSays g k) (10 * k + 3) 0) (10 * k + 4) (U1.1 1 (10 * k + 4))) U (mup (mup V14 1 (10 * k + 3) 0) 1 (10 * k + 4) (U1.1 1 (10 * k + 4))) := ((k15).up).up
          have eg : upd (upd (sSays g k) (10 * k + 3) 0) (10 * k + 4) (U1.1 1 (10 * k + 4)) = g := by rw [hk.1]; exact sSays_undo c_35
          rw [eg] at k9
          have e : sNews (mRd U) g m t i (k + 1) = (if sLate (sCome (mRd U) m 2 i 61 0 t (sSays g k)) < (sNews (mRd U) g m t i k).2 then nI k else (sNews (mRd U) g m t i k).1, if (sNews (mRd U) g m t i k).2 < sLate (sCome (mRd U) m 2 i 61 0 t (sSays g k)) then (sNews (mRd U) g m t i k).2 else sLate (sCome (mRd U) m 2 i 61 0 t (sSays g k))) := by rw [sNews]; exact if_pos c_35
          exact ih (m - (k + 1)) (by omega) (k + 1) _ _ _ _ _ _ _ rfl (by omega) (nI_inc k) (by rw [e]; exact (if_pos (by first | exact c_86 | exact Int32.not_le.mp c_86)).symm) (by rw [e]) k9 hM29 (hs.tr hT34)
theorem c_X7_news (hk : MK n g U U1) (hM : MAt h u U1) (hz : mZ U) (hg : gOk g m t) (hn : 1 ≤ n) {i : Nat} (hi : i < 6) (ht6 : t ≤ 1000000000) (hd : 26 ≤ d) : Ct l G mX7_news yX7_news d 0 0 [.ref u, .int (nI i)] h (fun r h' => r = some (.int (sNews (mRd U) g m t i m).1) ∧ ∃ U', MAt h' u U' ∧ MK n g U U' ∧ Same u 19 h h') := by
  refine ct_of (lv := [some (.ref u), some (.int (nI i)), none, none, none, none, none]) (by decide +kernel) rfl (fun z => by cases z) (fun _ => rfl) (fun _ => Nat.le_of_ble_eq_true rfl) ?_
  refine aw_bipush (pc' := 2) (v := -5) eX7_news_0 rfl (by decide) ?_
  refine aw_istore_n (pc' := 3) eX7_news_2 rfl (by decide) ?_
  dsimp only [zst, zst2, zcut]
  refine aw_aload_n (pc' := 4) eX7_news_3 rfl rfl trivial ?_
  refine aw_iload_n (pc' := 5) eX7_news_4 rfl rfl ?_
  refine aw_iconst (pc' := 6) (v := 2) eX7_news_5 rfl (by decide) ?_
  refine aw_callv (pc' := 9) (nn := 2) (c_X7_comes (d := d - 1) hk hM hz hg (n := n) (by omega) (i := i) (by omega) 2 (by omega) (by omega)) eX7_news_6 rfl ⟨q966, q969, q62⟩ q968 q38 ⟨rfl, by decide +kernel, by decide +kernel, by decide +kernel⟩ rfl (by rw [hM.2.1]; exact ⟨rfl, rfl⟩) rfl ⟨by omega, by decide⟩ ⟨by omega, by omega⟩ rfl (Nat.le_of_ble_eq_true rfl) (fun v5 h6 hq7 => ?_)
  obtain ⟨rfl, V3, hM1, k4, hs2⟩ := hq7
  dsimp only [Option.toList, List.cons_append, List.nil_append]
  refine aw_calls (pc' := 12) (nn := 1) (c_X7_late (d := d - 1) _ (by omega)) eX7_news_9 rfl ⟨q990, q992, q62⟩ q991 ⟨by decide +kernel, by decide +kernel, by decide +kernel⟩ rfl ⟨by omega, by decide⟩ ⟨by omega, by omega⟩ rfl (Nat.le_of_ble_eq_true rfl) (fun v8 h9 hq10 => ?_)
  obtain ⟨rfl, rfl⟩ := hq10
  dsimp only [Option.toList, List.cons_append, List.nil_append]
  refine aw_istore_n (pc' := 13) eX7_news_12 rfl (by decide) ?_
  dsimp only [zst, zst2, zcut]
  refine aw_iconst (pc' := 14) (v := 0) eX7_news_13 rfl (by decide) ?_
  refine aw_istore (pc' := 16) eX7_news_14 rfl (by decide) ?_
  dsimp only [zst, zst2, zcut]
  exact lp_X7_news hz hg hn hi ht6 hd (fun h' U' a b c => ⟨rfl, U', a, b, c⟩) m 0 _ _ _ _ _ _ _ (by omega) (by omega) rfl rfl rfl k4 hM1 hs2
theorem bI6 : bIn 6 0 5 = false := by decide
theorem bI7 : bIn 7 0 5 = false := by decide
theorem bI8 : bIn 8 0 5 = false := by decide
def sOf (F : FT) (g : Nat → Int32) (m t : Nat) (tl w : Int32) : Int32 := if bIn tl 0 (nI m - 1) = true then (if bIn w 0 5 = true then g (10 * tl.toNatClampNeg + w.toNatClampNeg) else if w = 6 then lod F g m t tl.toNatClampNeg else if w = 7 then (sBlow F g m t tl.toNatClampNeg 10).1 else if w = 8 then (sNews F g m t tl.toNatClampNeg m).1 else if bIn w 12 14 = true then sCome F m (w - 10) tl.toNatClampNeg 61 0 t g else -10001) else -10001
abbrev mX7_of : MT := (RX7, cX7_of, 3, (some .int), false)
theorem eX7_of_0 : decode mX7_of.2.1 0 = .ok (.aload_n 0, 1) := by decide +kernel
theorem eX7_of_1 : decode mX7_of.2.1 1 = .ok (.iload_n 1, 1) := by decide +kernel
theorem eX7_of_2 : decode mX7_of.2.1 2 = .ok (.invokevirtual 88, 3) := by decide +kernel
theorem eX7_of_5 : decode mX7_of.2.1 5 = .ok (.ifCond .ne 7, 3) := by decide +kernel
theorem eX7_of_8 : decode mX7_of.2.1 8 = .ok (.sipush (-10001), 3) := by decide +kernel
theorem eX7_of_11 : decode mX7_of.2.1 11 = .ok (.ireturn, 1) := by decide +kernel
theorem eX7_of_12 : decode mX7_of.2.1 12 = .ok (.iload_n 2, 1) := by decide +kernel
theorem eX7_of_13 : decode mX7_of.2.1 13 = .ok (.iconst 0, 1) := by decide +kernel
theorem eX7_of_14 : decode mX7_of.2.1 14 = .ok (.iconst 5, 1) := by decide +kernel
theorem eX7_of_15 : decode mX7_of.2.1 15 = .ok (.invokestatic 80, 3) := by decide +kernel
theorem eX7_of_18 : decode mX7_of.2.1 18 = .ok (.ifCond .eq 10, 3) := by decide +kernel
theorem eX7_of_21 : decode mX7_of.2.1 21 = .ok (.aload_n 0, 1) := by decide +kernel
theorem eX7_of_22 : decode mX7_of.2.1 22 = .ok (.iload_n 1, 1) := by decide +kernel
theorem eX7_of_23 : decode mX7_of.2.1 23 = .ok (.iload_n 2, 1) := by decide +kernel
theorem eX7_of_24 : decode mX7_of.2.1 24 = .ok (.invokevirtual 84, 3) := by decide +kernel
theorem eX7_of_27 : decode mX7_of.2.1 27 = .ok (.ireturn, 1) := by decide +kernel
theorem eX7_of_28 : decode mX7_of.2.1 28 = .ok (.iload_n 2, 1) := by decide +kernel
theorem eX7_of_29 : decode mX7_of.2.1 29 = .ok (.bipush 6, 2) := by decide +kernel
theorem eX7_of_31 : decode mX7_of.2.1 31 = .ok (.if_icmp .ne 11, 3) := by decide +kernel
theorem eX7_of_34 : decode mX7_of.2.1 34 = .ok (.aload_n 0, 1) := by decide +kernel
theorem eX7_of_35 : decode mX7_of.2.1 35 = .ok (.iload_n 1, 1) := by decide +kernel
theorem eX7_of_36 : decode mX7_of.2.1 36 = .ok (.invokevirtual 92, 3) := by decide +kernel
theorem eX7_of_39 : decode mX7_of.2.1 39 = .ok (.goto 57, 3) := by decide +kernel
theorem eX7_of_42 : decode mX7_of.2.1 42 = .ok (.iload_n 2, 1) := by decide +kernel
theorem eX7_of_43 : decode mX7_of.2.1 43 = .ok (.bipush 7, 2) := by decide +kernel
theorem eX7_of_45 : decode mX7_of.2.1 45 = .ok (.if_icmp .ne 11, 3) := by decide +kernel
theorem eX7_of_48 : decode mX7_of.2.1 48 = .ok (.aload_n 0, 1) := by decide +kernel
theorem eX7_of_49 : decode mX7_of.2.1 49 = .ok (.iload_n 1, 1) := by decide +kernel
theorem eX7_of_50 : decode mX7_of.2.1 50 = .ok (.invokevirtual 96, 3) := by decide +kernel
theorem eX7_of_53 : decode mX7_of.2.1 53 = .ok (.goto 43, 3) := by decide +kernel
theorem eX7_of_56 : decode mX7_of.2.1 56 = .ok (.iload_n 2, 1) := by decide +kernel
theorem eX7_of_57 : decode mX7_of.2.1 57 = .ok (.bipush 8, 2) := by decide +kernel
theorem eX7_of_59 : decode mX7_of.2.1 59 = .ok (.if_icmp .ne 11, 3) := by decide +kernel
theorem eX7_of_62 : decode mX7_of.2.1 62 = .ok (.aload_n 0, 1) := by decide +kernel
theorem eX7_of_63 : decode mX7_of.2.1 63 = .ok (.iload_n 1, 1) := by decide +kernel
theorem eX7_of_64 : decode mX7_of.2.1 64 = .ok (.invokevirtual 99, 3) := by decide +kernel
theorem eX7_of_67 : decode mX7_of.2.1 67 = .ok (.goto 29, 3) := by decide +kernel
theorem eX7_of_70 : decode mX7_of.2.1 70 = .ok (.iload_n 2, 1) := by decide +kernel
theorem eX7_of_71 : decode mX7_of.2.1 71 = .ok (.bipush 12, 2) := by decide +kernel
theorem eX7_of_73 : decode mX7_of.2.1 73 = .ok (.bipush 14, 2) := by decide +kernel
theorem eX7_of_75 : decode mX7_of.2.1 75 = .ok (.invokestatic 80, 3) := by decide +kernel
theorem eX7_of_78 : decode mX7_of.2.1 78 = .ok (.ifCond .eq 15, 3) := by decide +kernel
theorem eX7_of_81 : decode mX7_of.2.1 81 = .ok (.aload_n 0, 1) := by decide +kernel
theorem eX7_of_82 : decode mX7_of.2.1 82 = .ok (.iload_n 1, 1) := by decide +kernel
theorem eX7_of_83 : decode mX7_of.2.1 83 = .ok (.iload_n 2, 1) := by decide +kernel
theorem eX7_of_84 : decode mX7_of.2.1 84 = .ok (.bipush 10, 2) := by decide +kernel
theorem eX7_of_86 : decode mX7_of.2.1 86 = .ok (.isub, 1) := by decide +kernel
theorem eX7_of_87 : decode mX7_of.2.1 87 = .ok (.invokevirtual 102, 3) := by decide +kernel
theorem eX7_of_90 : decode mX7_of.2.1 90 = .ok (.goto 6, 3) := by decide +kernel
theorem eX7_of_93 : decode mX7_of.2.1 93 = .ok (.sipush (-10001), 3) := by decide +kernel
theorem eX7_of_96 : decode mX7_of.2.1 96 = .ok (.ireturn, 1) := by decide +kernel
theorem c_X7_of (hM : MAt h u U) (hz : mZ U) (hg : gOk (U.1 1) m t) (ht6 : t ≤ 1000000) (tl w : Int32) (hd : 27 ≤ d) : Ct l G mX7_of yX7_of d 0 0 [.ref u, .int tl, .int w] h (fun r h' => r = some (.int (sOf (mRd U) (U.1 1) m t tl w)) ∧ ∃ U', MAt h' u U' ∧ MK 2 (U.1 1) U U' ∧ Same u 19 h h') := by
  refine ct_of (lv := [some (.ref u), some (.int tl), some (.int w)]) (by decide +kernel) rfl (fun z => by cases z) (fun _ => rfl) (fun _ => Nat.le_of_ble_eq_true rfl) ?_
  have hgg := hg
  obtain ⟨hm, hm6, ht, ht2, hgq⟩ := hgg
  refine aw_aload_n (pc' := 1) eX7_of_0 rfl rfl trivial ?_
  refine aw_iload_n (pc' := 2) eX7_of_1 rfl rfl ?_
  refine aw_callv (pc' := 5) (nn := 1) (c_X7_isOne (d := d - 1) hM _ (by omega)) eX7_of_2 rfl ⟨q897, q900, q62⟩ q899 q21 ⟨rfl, by decide +kernel, by decide +kernel, by decide +kernel⟩ rfl (by rw [hM.2.1]; exact ⟨rfl, rfl⟩) rfl ⟨by omega, by decide⟩ ⟨by omega, by omega⟩ rfl (Nat.le_of_ble_eq_true rfl) (fun v1 h2 hq3 => ?_)
  obtain ⟨rfl, rfl⟩ := hq3
  dsimp only [Option.toList, List.cons_append, List.nil_append]
  refine aw_if_ne (pc' := 8) (tgt := 12) eX7_of_5 rfl (by decide) (fun c_5 => ?_) (fun c_5 => ?_)
  · simp only [zb_eq0, Bool.not_eq_false, Bool.not_eq_true, decide_eq_true_eq, decide_eq_false_iff_not, Decidable.not_not, hm] at c_5
    have c5 := c_5
    obtain ⟨i, hi, rfl⟩ := (bIn_one hm6).mp c5
    have cli : (nI i).toNatClampNeg = i := nI_clamp (by omega)
    have hk : MK 2 (U.1 1) U U := MK.rf
    refine aw_iload_n (pc' := 13) eX7_of_12 rfl rfl ?_
    refine aw_iconst (pc' := 14) (v := 0) eX7_of_13 rfl (by decide) ?_
    refine aw_iconst (pc' := 15) (v := 5) eX7_of_14 rfl (by decide) ?_
    refine aw_calls (pc' := 18) (nn := 3) (c_X7_isIn (d := d - 1) _ _ _ (by omega)) eX7_of_15 rfl ⟨q890, q892, q62⟩ q891 ⟨by decide +kernel, by decide +kernel, by decide +kernel⟩ rfl ⟨by omega, by decide⟩ ⟨by omega, by omega⟩ rfl (Nat.le_of_ble_eq_true rfl) (fun v4 h5 hq6 => ?_)
    obtain ⟨rfl, rfl⟩ := hq6
    dsimp only [Option.toList, List.cons_append, List.nil_append]
    refine aw_if_eq (pc' := 21) (tgt := 28) eX7_of_18 rfl (by decide) (fun c_18 => ?_) (fun c_18 => ?_)
    · refine aw_iload_n (pc' := 29) eX7_of_28 rfl rfl ?_
      refine aw_bipush (pc' := 31) (v := 6) eX7_of_29 rfl (by decide) ?_
      refine aw_icmp_ne (pc' := 34) (tgt := 42) eX7_of_31 rfl (by decide) (fun c_31 => ?_) (fun c_31 => ?_)
      · refine aw_iload_n (pc' := 43) eX7_of_42 rfl rfl ?_
        refine aw_bipush (pc' := 45) (v := 7) eX7_of_43 rfl (by decide) ?_
        refine aw_icmp_ne (pc' := 48) (tgt := 56) eX7_of_45 rfl (by decide) (fun c_45 => ?_) (fun c_45 => ?_)
        · refine aw_iload_n (pc' := 57) eX7_of_56 rfl rfl ?_
          refine aw_bipush (pc' := 59) (v := 8) eX7_of_57 rfl (by decide) ?_
          refine aw_icmp_ne (pc' := 62) (tgt := 70) eX7_of_59 rfl (by decide) (fun c_59 => ?_) (fun c_59 => ?_)
          · refine aw_iload_n (pc' := 71) eX7_of_70 rfl rfl ?_
            refine aw_bipush (pc' := 73) (v := 12) eX7_of_71 rfl (by decide) ?_
            refine aw_bipush (pc' := 75) (v := 14) eX7_of_73 rfl (by decide) ?_
            refine aw_calls (pc' := 78) (nn := 3) (c_X7_isIn (d := d - 1) _ _ _ (by omega)) eX7_of_75 rfl ⟨q890, q892, q62⟩ q891 ⟨by decide +kernel, by decide +kernel, by decide +kernel⟩ rfl ⟨by omega, by decide⟩ ⟨by omega, by omega⟩ rfl (Nat.le_of_ble_eq_true rfl) (fun v7 h8 hq9 => ?_)
            obtain ⟨rfl, rfl⟩ := hq9
            dsimp only [Option.toList, List.cons_append, List.nil_append]
            refine aw_if_eq (pc' := 81) (tgt := 93) eX7_of_78 rfl (by decide) (fun c_78 => ?_) (fun c_78 => ?_)
            · refine aw_sipush (pc' := 96) (v := -10001) eX7_of_93 rfl (by decide) ?_
              refine aw_ret (v := some (.int _)) eX7_of_96 ⟨rfl, rfl⟩ (by omega) (by omega) rfl ?_
              simp only [zb_eq0, Bool.not_eq_false, Bool.not_eq_true, decide_eq_true_eq, decide_eq_false_iff_not, Decidable.not_not] at c_18
              simp only [zb_eq0, Bool.not_eq_false, Bool.not_eq_true, decide_eq_true_eq, decide_eq_false_iff_not, Decidable.not_not] at c_78
              exact ⟨by simp [sOf, c_5, cli, c_5, c_18, c_31, c_45, c_59, c_78, bI6, bI7, bI8], _, hM, hk, Same.rf⟩
            · refine aw_aload_n (pc' := 82) eX7_of_81 rfl rfl trivial ?_
              refine aw_iload_n (pc' := 83) eX7_of_82 rfl rfl ?_
              refine aw_iload_n (pc' := 84) eX7_of_83 rfl rfl ?_
              refine aw_bipush (pc' := 86) (v := 10) eX7_of_84 rfl (by decide) ?_
              refine aw_isub (pc' := 87) eX7_of_86 rfl ?_
              refine aw_callv (pc' := 90) (nn := 2) (c_X7_comes (d := d - 1) hk hM hz hg (n := 2) (by omega) (i := i) (by omega) (w - 10) (by omega) (by omega)) eX7_of_87 rfl ⟨q966, q969, q62⟩ q968 q38 ⟨rfl, by decide +kernel, by decide +kernel, by decide +kernel⟩ rfl (by rw [hM.2.1]; exact ⟨rfl, rfl⟩) rfl ⟨by omega, by decide⟩ ⟨by omega, by omega⟩ rfl (Nat.le_of_ble_eq_true rfl) (fun v14 h15 hq16 => ?_)
              obtain ⟨rfl, V12, hM10, k13, hs11⟩ := hq16
              dsimp only [Option.toList, List.cons_append, List.nil_append]
              refine aw_goto eX7_of_90 (by decide) (tgt := 96) ?_
              refine aw_ret (v := some (.int _)) eX7_of_96 ⟨rfl, rfl⟩ (by omega) (by omega) rfl ?_
              simp only [zb_eq0, Bool.not_eq_false, Bool.not_eq_true, decide_eq_true_eq, decide_eq_false_iff_not, Decidable.not_not] at c_18
              simp only [zb_eq0, Bool.not_eq_false, Bool.not_eq_true, decide_eq_true_eq, decide_eq_false_iff_not, Decidable.not_not] at c_78
              exact ⟨by simp [sOf, c_5, cli, c_5, c_18, c_31, c_45, c_59, c_78, bI6, bI7, bI8], _, hM10, k13, hs11⟩
          · refine aw_aload_n (pc' := 63) eX7_of_62 rfl rfl trivial ?_
            refine aw_iload_n (pc' := 64) eX7_of_63 rfl rfl ?_
            refine aw_callv (pc' := 67) (nn := 1) (c_X7_news (d := d - 1) hk hM hz hg (n := 2) (by omega) (i := i) (by omega) (by omega) (by omega)) eX7_of_64 rfl ⟨q993, q996, q62⟩ q995 q44 ⟨rfl, by decide +kernel, by decide +kernel, by decide +kernel⟩ rfl (by rw [hM.2.1]; exact ⟨rfl, rfl⟩) rfl ⟨by omega, by decide⟩ ⟨by omega, by omega⟩ rfl (Nat.le_of_ble_eq_true rfl) (fun v21 h22 hq23 => ?_)
            obtain ⟨rfl, V19, hM17, k20, hs18⟩ := hq23
            dsimp only [Option.toList, List.cons_append, List.nil_append]
            refine aw_goto eX7_of_67 (by decide) (tgt := 96) ?_
            refine aw_ret (v := some (.int _)) eX7_of_96 ⟨rfl, rfl⟩ (by omega) (by omega) rfl ?_
            simp only [zb_eq0, Bool.not_eq_false, Bool.not_eq_true, decide_eq_true_eq, decide_eq_false_iff_not, Decidable.not_not] at c_18
            exact ⟨by simp [sOf, c_5, cli, c_5, c_18, c_31, c_45, c_59, bI6, bI7, bI8], _, hM17, k20, hs18⟩
        · refine aw_aload_n (pc' := 49) eX7_of_48 rfl rfl trivial ?_
          refine aw_iload_n (pc' := 50) eX7_of_49 rfl rfl ?_
          refine aw_callv (pc' := 53) (nn := 1) (c_X7_blow (d := d - 1) hk hM hz hg (n := 2) (by omega) (i := i) (by omega) (by omega) (by omega)) eX7_of_50 rfl ⟨q962, q965, q62⟩ q964 q37 ⟨rfl, by decide +kernel, by decide +kernel, by decide +kernel⟩ rfl (by rw [hM.2.1]; exact ⟨rfl, rfl⟩) rfl ⟨by omega, by decide⟩ ⟨by omega, by omega⟩ rfl (Nat.le_of_ble_eq_true rfl) (fun v28 h29 hq30 => ?_)
          obtain ⟨rfl, V26, hM24, k27, hs25⟩ := hq30
          dsimp only [Option.toList, List.cons_append, List.nil_append]
          refine aw_goto eX7_of_53 (by decide) (tgt := 96) ?_
          refine aw_ret (v := some (.int _)) eX7_of_96 ⟨rfl, rfl⟩ (by omega) (by omega) rfl ?_
          simp only [zb_eq0, Bool.not_eq_false, Bool.not_eq_true, decide_eq_true_eq, decide_eq_false_iff_not, Decidable.not_not] at c_18
          exact ⟨by simp [sOf, c_5, cli, c_5, c_18, c_31, c_45, bI6, bI7, bI8], _, hM24, k27, hs25⟩
      · refine aw_aload_n (pc' := 35) eX7_of_34 rfl rfl trivial ?_
        refine aw_iload_n (pc' := 36) eX7_of_35 rfl rfl ?_
        refine aw_callv (pc' := 39) (nn := 1) (c_X7_load (d := d - 1) hk hM hz hg (i := i) (by omega) (by omega)) eX7_of_36 rfl ⟨q905, q908, q62⟩ q907 q23 ⟨rfl, by decide +kernel, by decide +kernel, by decide +kernel⟩ rfl (by rw [hM.2.1]; exact ⟨rfl, rfl⟩) rfl ⟨by omega, by decide⟩ ⟨by omega, by omega⟩ rfl (Nat.le_of_ble_eq_true rfl) (fun v35 h36 hq37 => ?_)
        obtain ⟨rfl, V33, hM31, k34, hs32⟩ := hq37
        dsimp only [Option.toList, List.cons_append, List.nil_append]
        refine aw_goto eX7_of_39 (by decide) (tgt := 96) ?_
        refine aw_ret (v := some (.int _)) eX7_of_96 ⟨rfl, rfl⟩ (by omega) (by omega) rfl ?_
        simp only [zb_eq0, Bool.not_eq_false, Bool.not_eq_true, decide_eq_true_eq, decide_eq_false_iff_not, Decidable.not_not] at c_18
        exact ⟨by simp [sOf, c_5, cli, c_5, c_18, c_31, bI6, bI7, bI8], _, hM31, k34, hs32⟩
    · have c18 := c_18
      simp only [zb_eq0, Bool.not_eq_false, Bool.not_eq_true, decide_eq_true_eq, decide_eq_false_iff_not, Decidable.not_not] at c18
      obtain ⟨w2, hw2, rfl⟩ := (bIn_lit (N := 5) (by omega)).mp c18
      have clw : (nI w2).toNatClampNeg = w2 := nI_clamp (by omega)
      refine aw_aload_n (pc' := 22) eX7_of_21 rfl rfl trivial ?_
      refine aw_iload_n (pc' := 23) eX7_of_22 rfl rfl ?_
      refine aw_iload_n (pc' := 24) eX7_of_23 rfl rfl ?_
      refine aw_callv (pc' := 27) (nn := 2) (c_one (d := d - 1) hM i w2 (by omega) (by omega)) eX7_of_24 rfl ⟨q901, q904, q62⟩ q903 q22 ⟨rfl, by decide +kernel, by decide +kernel, by decide +kernel⟩ rfl (by rw [hM.2.1]; exact ⟨rfl, rfl⟩) rfl ⟨by omega, by decide⟩ ⟨by omega, by omega⟩ rfl (Nat.le_of_ble_eq_true rfl) (fun v38 h39 hq40 => ?_)
      obtain ⟨rfl, rfl⟩ := hq40
      dsimp only [Option.toList, List.cons_append, List.nil_append]
      refine aw_ret (v := some (.int _)) eX7_of_27 ⟨rfl, rfl⟩ (by omega) (by omega) rfl ?_
      simp only [zb_eq0, Bool.not_eq_false, Bool.not_eq_true, decide_eq_true_eq, decide_eq_false_iff_not, Decidable.not_not] at c_18
      exact ⟨by simp [sOf, c_5, cli, c_5, c_18, clw, bI6, bI7, bI8], _, hM, hk, Same.rf⟩
  · refine aw_sipush (pc' := 11) (v := -10001) eX7_of_8 rfl (by decide) ?_
    refine aw_ret (v := some (.int _)) eX7_of_11 ⟨rfl, rfl⟩ (by omega) (by omega) rfl ?_
    simp only [zb_eq0, Bool.not_eq_false, Bool.not_eq_true, decide_eq_true_eq, decide_eq_false_iff_not, Decidable.not_not, hm] at c_5
    exact ⟨by simp [sOf, c_5], U, hM, MK.rf, Same.rf⟩
def sTold (F : FT) (g : Nat → Int32) (m t : Nat) (w : Int32) : Int32 := if w = 0 then g 67 else if w = 1 then (F g 0).2 else if w = 2 then g 61 else if w = 3 then g 62 else if w = 4 then sCnt g 4 m else if w = 5 then sWhich g 1 m else if w = 6 then sLoads F g m t m else if bIn w 10 13 = true then g (53 + w.toNatClampNeg) else -10001
theorem nI_subn {a b : Nat} : nI (a + b) - nI b = nI a := by
  have e : nI (a + b) = nI a + nI b := (nI_add a b).symm
  rw [e, Int32.add_sub_cancel]
abbrev mX7_told : MT := (RX7, cX7_told, 2, (some .int), false)
theorem eX7_told_0 : decode mX7_told.2.1 0 = .ok (.iload_n 1, 1) := by decide +kernel
theorem eX7_told_1 : decode mX7_told.2.1 1 = .ok (.tableswitch 89 0 6 #[43, 51, 56, 64, 72, 78, 84], 43) := by decide +kernel
theorem eX7_told_44 : decode mX7_told.2.1 44 = .ok (.aload_n 0, 1) := by decide +kernel
theorem eX7_told_45 : decode mX7_told.2.1 45 = .ok (.getfield 15, 3) := by decide +kernel
theorem eX7_told_48 : decode mX7_told.2.1 48 = .ok (.bipush 67, 2) := by decide +kernel
theorem eX7_told_50 : decode mX7_told.2.1 50 = .ok (.iaload, 1) := by decide +kernel
theorem eX7_told_51 : decode mX7_told.2.1 51 = .ok (.ireturn, 1) := by decide +kernel
theorem eX7_told_52 : decode mX7_told.2.1 52 = .ok (.aload_n 0, 1) := by decide +kernel
theorem eX7_told_53 : decode mX7_told.2.1 53 = .ok (.invokevirtual 194, 3) := by decide +kernel
theorem eX7_told_56 : decode mX7_told.2.1 56 = .ok (.ireturn, 1) := by decide +kernel
theorem eX7_told_57 : decode mX7_told.2.1 57 = .ok (.aload_n 0, 1) := by decide +kernel
theorem eX7_told_58 : decode mX7_told.2.1 58 = .ok (.getfield 15, 3) := by decide +kernel
theorem eX7_told_61 : decode mX7_told.2.1 61 = .ok (.bipush 61, 2) := by decide +kernel
theorem eX7_told_63 : decode mX7_told.2.1 63 = .ok (.iaload, 1) := by decide +kernel
theorem eX7_told_64 : decode mX7_told.2.1 64 = .ok (.ireturn, 1) := by decide +kernel
theorem eX7_told_65 : decode mX7_told.2.1 65 = .ok (.aload_n 0, 1) := by decide +kernel
theorem eX7_told_66 : decode mX7_told.2.1 66 = .ok (.getfield 15, 3) := by decide +kernel
theorem eX7_told_69 : decode mX7_told.2.1 69 = .ok (.bipush 62, 2) := by decide +kernel
theorem eX7_told_71 : decode mX7_told.2.1 71 = .ok (.iaload, 1) := by decide +kernel
theorem eX7_told_72 : decode mX7_told.2.1 72 = .ok (.ireturn, 1) := by decide +kernel
theorem eX7_told_73 : decode mX7_told.2.1 73 = .ok (.aload_n 0, 1) := by decide +kernel
theorem eX7_told_74 : decode mX7_told.2.1 74 = .ok (.iconst 4, 1) := by decide +kernel
theorem eX7_told_75 : decode mX7_told.2.1 75 = .ok (.invokevirtual 117, 3) := by decide +kernel
theorem eX7_told_78 : decode mX7_told.2.1 78 = .ok (.ireturn, 1) := by decide +kernel
theorem eX7_told_79 : decode mX7_told.2.1 79 = .ok (.aload_n 0, 1) := by decide +kernel
theorem eX7_told_80 : decode mX7_told.2.1 80 = .ok (.iconst 1, 1) := by decide +kernel
theorem eX7_told_81 : decode mX7_told.2.1 81 = .ok (.invokevirtual 206, 3) := by decide +kernel
theorem eX7_told_84 : decode mX7_told.2.1 84 = .ok (.ireturn, 1) := by decide +kernel
theorem eX7_told_85 : decode mX7_told.2.1 85 = .ok (.aload_n 0, 1) := by decide +kernel
theorem eX7_told_86 : decode mX7_told.2.1 86 = .ok (.invokevirtual 191, 3) := by decide +kernel
theorem eX7_told_89 : decode mX7_told.2.1 89 = .ok (.ireturn, 1) := by decide +kernel
theorem eX7_told_90 : decode mX7_told.2.1 90 = .ok (.iload_n 1, 1) := by decide +kernel
theorem eX7_told_91 : decode mX7_told.2.1 91 = .ok (.bipush 10, 2) := by decide +kernel
theorem eX7_told_93 : decode mX7_told.2.1 93 = .ok (.bipush 13, 2) := by decide +kernel
theorem eX7_told_95 : decode mX7_told.2.1 95 = .ok (.invokestatic 80, 3) := by decide +kernel
theorem eX7_told_98 : decode mX7_told.2.1 98 = .ok (.ifCond .eq 18, 3) := by decide +kernel
theorem eX7_told_101 : decode mX7_told.2.1 101 = .ok (.aload_n 0, 1) := by decide +kernel
theorem eX7_told_102 : decode mX7_told.2.1 102 = .ok (.getfield 15, 3) := by decide +kernel
theorem eX7_told_105 : decode mX7_told.2.1 105 = .ok (.bipush 63, 2) := by decide +kernel
theorem eX7_told_107 : decode mX7_told.2.1 107 = .ok (.iload_n 1, 1) := by decide +kernel
theorem eX7_told_108 : decode mX7_told.2.1 108 = .ok (.iadd, 1) := by decide +kernel
theorem eX7_told_109 : decode mX7_told.2.1 109 = .ok (.bipush 10, 2) := by decide +kernel
theorem eX7_told_111 : decode mX7_told.2.1 111 = .ok (.isub, 1) := by decide +kernel
theorem eX7_told_112 : decode mX7_told.2.1 112 = .ok (.iaload, 1) := by decide +kernel
theorem eX7_told_113 : decode mX7_told.2.1 113 = .ok (.goto 6, 3) := by decide +kernel
theorem eX7_told_116 : decode mX7_told.2.1 116 = .ok (.sipush (-10001), 3) := by decide +kernel
theorem eX7_told_119 : decode mX7_told.2.1 119 = .ok (.ireturn, 1) := by decide +kernel
theorem c_X7_told (hM : MAt h u U) (hz : mZ U) (hg : gOk (U.1 1) m t) (ht6 : t ≤ 1000000) (w : Int32) (hd : 23 ≤ d) : Ct l G mX7_told yX7_told d 0 0 [.ref u, .int w] h (fun r h' => r = some (.int (sTold (mRd U) (U.1 1) m t w)) ∧ ∃ U', MAt h' u U' ∧ MK 0 (U.1 1) U U' ∧ Same u 19 h h') := by
  refine ct_of (lv := [some (.ref u), some (.int w)]) (by decide +kernel) rfl (fun z => by cases z) (fun _ => rfl) (fun _ => Nat.le_of_ble_eq_true rfl) ?_
  have hgg := hg
  obtain ⟨hm, hm6, ht, ht2, hgq⟩ := hgg
  have hk : MK 0 (U.1 1) U U := MK.rf
  refine aw_iload_n (pc' := 1) eX7_told_0 rfl rfl ?_
  refine aw_tsw (v := 0) (tgt := 44) eX7_told_1 (by decide) (by decide) rfl (by decide) (fun c_1 => ?_) (fun n_1_0 => ?_)
  · refine aw_aload_n (pc' := 45) eX7_told_44 rfl rfl trivial ?_
    refine aw_Mref (pc' := 48) (kf := 0) 1 hM eX7_told_45 rfl (by decide) rfl q789 ?_
    refine aw_bipush (pc' := 50) (v := 67) eX7_told_48 rfl (by decide) ?_
    refine aw_MaldC (pc' := 51) 1 67 hM eX7_told_50 rfl (by decide) (by unfold vp_in; decide) (by decide) ?_
    refine aw_ret (v := some (.int _)) eX7_told_51 ⟨rfl, rfl⟩ (by omega) (by omega) rfl ?_
    exact ⟨by simp [sTold, c_1], _, hM, hk, Same.rf⟩
  refine aw_tsw (v := 1) (tgt := 52) eX7_told_1 (by decide) (by decide) rfl (by decide) (fun c_1 => ?_) (fun n_1_1 => ?_)
  · refine aw_aload_n (pc' := 53) eX7_told_52 rfl rfl trivial ?_
    refine aw_callv (pc' := 56) (nn := 0) (c_X7_roomNow (d := d - 1) hk hM hz hg (by omega)) eX7_told_53 rfl ⟨q982, q985, q62⟩ q984 q42 ⟨rfl, by decide +kernel, by decide +kernel, by decide +kernel⟩ rfl (by rw [hM.2.1]; exact ⟨rfl, rfl⟩) rfl ⟨by omega, by decide⟩ ⟨by omega, by omega⟩ rfl (Nat.le_of_ble_eq_true rfl) (fun v5 h6 hq7 => ?_)
    obtain ⟨rfl, V3, hM1, k4, hs2⟩ := hq7
    dsimp only [Option.toList, List.cons_append, List.nil_append]
    refine aw_ret (v := some (.int _)) eX7_told_56 ⟨rfl, rfl⟩ (by omega) (by omega) rfl ?_
    exact ⟨by simp [sTold, c_1, n_1_0], _, hM1, k4, hs2⟩
  refine aw_tsw (v := 2) (tgt := 57) eX7_told_1 (by decide) (by decide) rfl (by decide) (fun c_1 => ?_) (fun n_1_2 => ?_)
  · refine aw_aload_n (pc' := 58) eX7_told_57 rfl rfl trivial ?_
    refine aw_Mref (pc' := 61) (kf := 0) 1 hM eX7_told_58 rfl (by decide) rfl q789 ?_
    refine aw_bipush (pc' := 63) (v := 61) eX7_told_61 rfl (by decide) ?_
    refine aw_MaldC (pc' := 64) 1 61 hM eX7_told_63 rfl (by decide) (by unfold vp_in; decide) (by decide) ?_
    refine aw_ret (v := some (.int _)) eX7_told_64 ⟨rfl, rfl⟩ (by omega) (by omega) rfl ?_
    exact ⟨by simp [sTold, c_1, n_1_0, n_1_1], _, hM, hk, Same.rf⟩
  refine aw_tsw (v := 3) (tgt := 65) eX7_told_1 (by decide) (by decide) rfl (by decide) (fun c_1 => ?_) (fun n_1_3 => ?_)
  · refine aw_aload_n (pc' := 66) eX7_told_65 rfl rfl trivial ?_
    refine aw_Mref (pc' := 69) (kf := 0) 1 hM eX7_told_66 rfl (by decide) rfl q789 ?_
    refine aw_bipush (pc' := 71) (v := 62) eX7_told_69 rfl (by decide) ?_
    refine aw_MaldC (pc' := 72) 1 62 hM eX7_told_71 rfl (by decide) (by unfold vp_in; decide) (by decide) ?_
    refine aw_ret (v := some (.int _)) eX7_told_72 ⟨rfl, rfl⟩ (by omega) (by omega) rfl ?_
    exact ⟨by simp [sTold, c_1, n_1_0, n_1_1, n_1_2], _, hM, hk, Same.rf⟩
  refine aw_tsw (v := 4) (tgt := 73) eX7_told_1 (by decide) (by decide) rfl (by decide) (fun c_1 => ?_) (fun n_1_4 => ?_)
  · refine aw_aload_n (pc' := 74) eX7_told_73 rfl rfl trivial ?_
    refine aw_iconst (pc' := 75) (v := 4) eX7_told_74 rfl (by decide) ?_
    refine aw_callv (pc' := 78) (nn := 1) (c_X7_howMany (d := d - 1) hM ⟨hm, hm6⟩ _ (by omega)) eX7_told_75 rfl ⟨q1005, q1008, q62⟩ q1007 q46 ⟨rfl, by decide +kernel, by decide +kernel, by decide +kernel⟩ rfl (by rw [hM.2.1]; exact ⟨rfl, rfl⟩) rfl ⟨by omega, by decide⟩ ⟨by omega, by omega⟩ rfl (Nat.le_of_ble_eq_true rfl) (fun v8 h9 hq10 => ?_)
    obtain ⟨rfl, rfl⟩ := hq10
    dsimp only [Option.toList, List.cons_append, List.nil_append]
    refine aw_ret (v := some (.int _)) eX7_told_78 ⟨rfl, rfl⟩ (by omega) (by omega) rfl ?_
    exact ⟨by simp [sTold, c_1, n_1_0, n_1_1, n_1_2, n_1_3], _, hM, hk, Same.rf⟩
  refine aw_tsw (v := 5) (tgt := 79) eX7_told_1 (by decide) (by decide) rfl (by decide) (fun c_1 => ?_) (fun n_1_5 => ?_)
  · refine aw_aload_n (pc' := 80) eX7_told_79 rfl rfl trivial ?_
    refine aw_iconst (pc' := 81) (v := 1) eX7_told_80 rfl (by decide) ?_
    refine aw_callv (pc' := 84) (nn := 1) (c_X7_which (d := d - 1) hM ⟨hm, hm6⟩ _ (by omega)) eX7_told_81 rfl ⟨q1040, q1043, q62⟩ q1042 q47 ⟨rfl, by decide +kernel, by decide +kernel, by decide +kernel⟩ rfl (by rw [hM.2.1]; exact ⟨rfl, rfl⟩) rfl ⟨by omega, by decide⟩ ⟨by omega, by omega⟩ rfl (Nat.le_of_ble_eq_true rfl) (fun v11 h12 hq13 => ?_)
    obtain ⟨rfl, rfl⟩ := hq13
    dsimp only [Option.toList, List.cons_append, List.nil_append]
    refine aw_ret (v := some (.int _)) eX7_told_84 ⟨rfl, rfl⟩ (by omega) (by omega) rfl ?_
    exact ⟨by simp [sTold, c_1, n_1_0, n_1_1, n_1_2, n_1_3, n_1_4], _, hM, hk, Same.rf⟩
  refine aw_tsw (v := 6) (tgt := 85) eX7_told_1 (by decide) (by decide) rfl (by decide) (fun c_1 => ?_) (fun n_1_6 => ?_)
  · refine aw_aload_n (pc' := 86) eX7_told_85 rfl rfl trivial ?_
    refine aw_callv (pc' := 89) (nn := 0) (c_X7_loads (d := d - 1) hk hM hz hg (by omega)) eX7_told_86 rfl ⟨q978, q981, q62⟩ q980 q41 ⟨rfl, by decide +kernel, by decide +kernel, by decide +kernel⟩ rfl (by rw [hM.2.1]; exact ⟨rfl, rfl⟩) rfl ⟨by omega, by decide⟩ ⟨by omega, by omega⟩ rfl (Nat.le_of_ble_eq_true rfl) (fun v18 h19 hq20 => ?_)
    obtain ⟨rfl, V16, hM14, k17, hs15⟩ := hq20
    dsimp only [Option.toList, List.cons_append, List.nil_append]
    refine aw_ret (v := some (.int _)) eX7_told_89 ⟨rfl, rfl⟩ (by omega) (by omega) rfl ?_
    exact ⟨by simp [sTold, c_1, n_1_0, n_1_1, n_1_2, n_1_3, n_1_4, n_1_5], _, hM14, k17, hs15⟩
  refine aw_tswo (tgt := 90) eX7_told_1 (by have g0 := zne n_1_0 (show ((0 : Int32)).toInt = 0 by decide); have g1 := zne n_1_1 (show ((1 : Int32)).toInt = 1 by decide); have g2 := zne n_1_2 (show ((2 : Int32)).toInt = 2 by decide); have g3 := zne n_1_3 (show ((3 : Int32)).toInt = 3 by decide); have g4 := zne n_1_4 (show ((4 : Int32)).toInt = 4 by decide); have g5 := zne n_1_5 (show ((5 : Int32)).toInt = 5 by decide); have g6 := zne n_1_6 (show ((6 : Int32)).toInt = 6 by decide); omega) (by decide) ?_
  refine aw_iload_n (pc' := 91) eX7_told_90 rfl rfl ?_
  refine aw_bipush (pc' := 93) (v := 10) eX7_told_91 rfl (by decide) ?_
  refine aw_bipush (pc' := 95) (v := 13) eX7_told_93 rfl (by decide) ?_
  refine aw_calls (pc' := 98) (nn := 3) (c_X7_isIn (d := d - 1) _ _ _ (by omega)) eX7_told_95 rfl ⟨q890, q892, q62⟩ q891 ⟨by decide +kernel, by decide +kernel, by decide +kernel⟩ rfl ⟨by omega, by decide⟩ ⟨by omega, by omega⟩ rfl (Nat.le_of_ble_eq_true rfl) (fun v21 h22 hq23 => ?_)
  obtain ⟨rfl, rfl⟩ := hq23
  dsimp only [Option.toList, List.cons_append, List.nil_append]
  refine aw_if_eq (pc' := 101) (tgt := 116) eX7_told_98 rfl (by decide) (fun c_98 => ?_) (fun c_98 => ?_)
  · refine aw_sipush (pc' := 119) (v := -10001) eX7_told_116 rfl (by decide) ?_
    refine aw_ret (v := some (.int _)) eX7_told_119 ⟨rfl, rfl⟩ (by omega) (by omega) rfl ?_
    simp only [zb_eq0, Bool.not_eq_false, Bool.not_eq_true, decide_eq_true_eq, decide_eq_false_iff_not, Decidable.not_not] at c_98
    exact ⟨by simp [sTold, n_1_0, n_1_1, n_1_2, n_1_3, n_1_4, n_1_5, n_1_6, c_98], _, hM, hk, Same.rf⟩
  · have c98 := c_98
    simp only [zb_eq0, Bool.not_eq_false, Bool.not_eq_true, decide_eq_true_eq, decide_eq_false_iff_not, Decidable.not_not] at c98
    obtain ⟨w2, h10, hw2, rfl⟩ : ∃ w2 : Nat, 10 ≤ w2 ∧ w2 ≤ 13 ∧ w = nI w2 := by
      rw [bIn_toInt, show (10 : Int32).toInt = 10 from by decide, show (13 : Int32).toInt = 13 from by decide] at c98
      exact ⟨w.toInt.toNat, by omega, by omega, Int32.toInt_inj.mp (by rw [nI_toInt (by omega)]; omega)⟩
    have clw : (nI w2).toNatClampNeg = w2 := nI_clamp (by omega)
    have ew : (63 + nI w2 - 10 : Int32) = nI (53 + w2) := by
      rw [show (63 : Int32) + nI w2 = nI (53 + w2 + 10) from (nI_add 63 w2).trans (by congr 1; omega)]
      exact nI_subn
    refine aw_aload_n (pc' := 102) eX7_told_101 rfl rfl trivial ?_
    refine aw_Mref (pc' := 105) (kf := 0) 1 hM eX7_told_102 rfl (by decide) rfl q789 ?_
    refine aw_bipush (pc' := 107) (v := 63) eX7_told_105 rfl (by decide) ?_
    refine aw_iload_n (pc' := 108) eX7_told_107 rfl rfl ?_
    refine aw_iadd (pc' := 109) eX7_told_108 rfl ?_
    refine aw_bipush (pc' := 111) (v := 10) eX7_told_109 rfl (by decide) ?_
    refine aw_isub (pc' := 112) eX7_told_111 rfl ?_
    rw [ew]
    refine aw_MaldC (pc' := 113) 1 (53 + w2) hM eX7_told_112 rfl (by decide) (show vp_in _ 123 from vp_in_nI (by omega) (by omega)) (nI_clamp (by omega)) ?_
    refine aw_goto eX7_told_113 (by decide) (tgt := 119) ?_
    refine aw_ret (v := some (.int _)) eX7_told_119 ⟨rfl, rfl⟩ (by omega) (by omega) rfl ?_
    simp only [zb_eq0, Bool.not_eq_false, Bool.not_eq_true, decide_eq_true_eq, decide_eq_false_iff_not, Decidable.not_not] at c_98
    exact ⟨by simp [sTold, n_1_0, n_1_1, n_1_2, n_1_3, n_1_4, n_1_5, n_1_6, c_98, clw], _, hM, hk, Same.rf⟩
def sPass (F : FT) (g : Nat → Int32) (m t : Nat) (n : Int32) : Int32 × (Nat → Int32) := if bIn n 0 60 = true then if 9999 < nI t + n then (-3, g) else (nI (t + n.toNatClampNeg), sDys F m n.toNatClampNeg t g) else (-2, g)
abbrev mX7_pass : MT := (RX7, cX7_pass, 2, (some .int), false)
theorem eX7_pass_0 : decode mX7_pass.2.1 0 = .ok (.iload_n 1, 1) := by decide +kernel
theorem eX7_pass_1 : decode mX7_pass.2.1 1 = .ok (.iconst 0, 1) := by decide +kernel
theorem eX7_pass_2 : decode mX7_pass.2.1 2 = .ok (.bipush 60, 2) := by decide +kernel
theorem eX7_pass_4 : decode mX7_pass.2.1 4 = .ok (.invokestatic 80, 3) := by decide +kernel
theorem eX7_pass_7 : decode mX7_pass.2.1 7 = .ok (.ifCond .ne 6, 3) := by decide +kernel
theorem eX7_pass_10 : decode mX7_pass.2.1 10 = .ok (.bipush (-2), 2) := by decide +kernel
theorem eX7_pass_12 : decode mX7_pass.2.1 12 = .ok (.ireturn, 1) := by decide +kernel
theorem eX7_pass_13 : decode mX7_pass.2.1 13 = .ok (.aload_n 0, 1) := by decide +kernel
theorem eX7_pass_14 : decode mX7_pass.2.1 14 = .ok (.getfield 15, 3) := by decide +kernel
theorem eX7_pass_17 : decode mX7_pass.2.1 17 = .ok (.bipush 67, 2) := by decide +kernel
theorem eX7_pass_19 : decode mX7_pass.2.1 19 = .ok (.iaload, 1) := by decide +kernel
theorem eX7_pass_20 : decode mX7_pass.2.1 20 = .ok (.iload_n 1, 1) := by decide +kernel
theorem eX7_pass_21 : decode mX7_pass.2.1 21 = .ok (.iadd, 1) := by decide +kernel
theorem eX7_pass_22 : decode mX7_pass.2.1 22 = .ok (.sipush 9999, 3) := by decide +kernel
theorem eX7_pass_25 : decode mX7_pass.2.1 25 = .ok (.if_icmp .le 6, 3) := by decide +kernel
theorem eX7_pass_28 : decode mX7_pass.2.1 28 = .ok (.bipush (-3), 2) := by decide +kernel
theorem eX7_pass_30 : decode mX7_pass.2.1 30 = .ok (.ireturn, 1) := by decide +kernel
theorem eX7_pass_31 : decode mX7_pass.2.1 31 = .ok (.aload_n 0, 1) := by decide +kernel
theorem eX7_pass_32 : decode mX7_pass.2.1 32 = .ok (.iload_n 1, 1) := by decide +kernel
theorem eX7_pass_33 : decode mX7_pass.2.1 33 = .ok (.invokevirtual 209, 3) := by decide +kernel
theorem eX7_pass_36 : decode mX7_pass.2.1 36 = .ok (.aload_n 0, 1) := by decide +kernel
theorem eX7_pass_37 : decode mX7_pass.2.1 37 = .ok (.getfield 15, 3) := by decide +kernel
theorem eX7_pass_40 : decode mX7_pass.2.1 40 = .ok (.bipush 67, 2) := by decide +kernel
theorem eX7_pass_42 : decode mX7_pass.2.1 42 = .ok (.iaload, 1) := by decide +kernel
theorem eX7_pass_43 : decode mX7_pass.2.1 43 = .ok (.ireturn, 1) := by decide +kernel
theorem c_X7_pass (hM : MAt h u U) (hz : mZ U) (hg : gOk (U.1 1) m t) (ht6 : t ≤ 1000000) (w : Int32) (hd : 26 ≤ d) : Ct l G mX7_pass yX7_pass d 0 0 [.ref u, .int w] h (fun r h' => r = some (.int (sPass (mRd U) (U.1 1) m t w).1) ∧ ∃ U', MAt h' u U' ∧ MK 0 (sPass (mRd U) (U.1 1) m t w).2 U U' ∧ Same u 19 h h') := by
  refine ct_of (lv := [some (.ref u), some (.int w)]) (by decide +kernel) rfl (fun z => by cases z) (fun _ => rfl) (fun _ => Nat.le_of_ble_eq_true rfl) ?_
  have hgg := hg
  obtain ⟨hm, hm6, ht, ht2, hgq⟩ := hgg
  have hk : MK 0 (U.1 1) U U := MK.rf
  refine aw_iload_n (pc' := 1) eX7_pass_0 rfl rfl ?_
  refine aw_iconst (pc' := 2) (v := 0) eX7_pass_1 rfl (by decide) ?_
  refine aw_bipush (pc' := 4) (v := 60) eX7_pass_2 rfl (by decide) ?_
  refine aw_calls (pc' := 7) (nn := 3) (c_X7_isIn (d := d - 1) _ _ _ (by omega)) eX7_pass_4 rfl ⟨q890, q892, q62⟩ q891 ⟨by decide +kernel, by decide +kernel, by decide +kernel⟩ rfl ⟨by omega, by decide⟩ ⟨by omega, by omega⟩ rfl (Nat.le_of_ble_eq_true rfl) (fun v1 h2 hq3 => ?_)
  obtain ⟨rfl, rfl⟩ := hq3
  dsimp only [Option.toList, List.cons_append, List.nil_append]
  refine aw_if_ne (pc' := 10) (tgt := 13) eX7_pass_7 rfl (by decide) (fun c_7 => ?_) (fun c_7 => ?_)
  · simp only [zb_eq0, Bool.not_eq_false, Bool.not_eq_true, decide_eq_true_eq, decide_eq_false_iff_not, Decidable.not_not] at c_7
    have c7 := c_7
    obtain ⟨w2, hw2, rfl⟩ := (bIn_lit (N := 60) (by omega)).mp c7
    have clw : (nI w2).toNatClampNeg = w2 := nI_clamp (by omega)
    refine aw_aload_n (pc' := 14) eX7_pass_13 rfl rfl trivial ?_
    refine aw_Mref (pc' := 17) (kf := 0) 1 hM eX7_pass_14 rfl (by decide) rfl q789 ?_
    refine aw_bipush (pc' := 19) (v := 67) eX7_pass_17 rfl (by decide) ?_
    refine aw_MaldC (pc' := 20) 1 67 hM eX7_pass_19 rfl (by decide) (by unfold vp_in; decide) (by decide) ?_
    refine aw_iload_n (pc' := 21) eX7_pass_20 rfl rfl ?_
    refine aw_iadd (pc' := 22) eX7_pass_21 rfl ?_
    refine aw_sipush (pc' := 25) (v := 9999) eX7_pass_22 rfl (by decide) ?_
    refine aw_icmp_le (pc' := 28) (tgt := 31) eX7_pass_25 rfl (by decide) (fun c_25 => ?_) (fun c_25 => ?_)
    · refine aw_aload_n (pc' := 32) eX7_pass_31 rfl rfl trivial ?_
      refine aw_iload_n (pc' := 33) eX7_pass_32 rfl rfl ?_
      refine aw_callv (pc' := 36) (nn := 1) (c_X7_days (d := d - 1) hk hM hz hg (x := w2) (by omega) (by omega) (by omega)) eX7_pass_33 rfl ⟨q1048, q1051, q62⟩ q1050 q48 ⟨rfl, by decide +kernel, by decide +kernel, by decide +kernel⟩ rfl (by rw [hM.2.1]; exact ⟨rfl, rfl⟩) rfl ⟨by omega, by decide⟩ ⟨by omega, by omega⟩ rfl (Nat.le_of_ble_eq_true rfl) (fun v8 h9 hq10 => ?_)
      obtain ⟨rfl, V6, hM4, k7, hs5⟩ := hq10
      dsimp only [Option.toList, List.cons_append, List.nil_append]
      refine aw_aload_n (pc' := 37) eX7_pass_36 rfl rfl trivial ?_
      refine aw_Mref (pc' := 40) (kf := 0) 1 hM4 eX7_pass_37 rfl (by decide) rfl q789 ?_
      refine aw_bipush (pc' := 42) (v := 67) eX7_pass_40 rfl (by decide) ?_
      refine aw_MaldC (pc' := 43) 1 67 hM4 eX7_pass_42 rfl (by decide) (by unfold vp_in; decide) (by decide) ?_
      refine aw_ret (v := some (.int _)) eX7_pass_43 ⟨rfl, rfl⟩ (by omega) (by omega) rfl ?_
      rw [ht] at c_25
      have c25 : ¬ (9999 : Int32) < nI t + nI w2 := by first | exact c_25 | exact Int32.not_lt.mpr c_25
      have e67 : V6.1 1 67 = nI (t + w2) := by rw [k7.1]; exact (sDys_ok _ _ _ hg (by omega)).2.2.1
      exact ⟨by rw [sPass, if_pos c_7, if_neg c25, clw, ← e67], _, hM4, by rw [sPass, if_pos c_7, if_neg c25, clw]; exact k7, hs5⟩
    · refine aw_bipush (pc' := 30) (v := -3) eX7_pass_28 rfl (by decide) ?_
      refine aw_ret (v := some (.int _)) eX7_pass_30 ⟨rfl, rfl⟩ (by omega) (by omega) rfl ?_
      rw [ht] at c_25
      exact ⟨by rw [sPass, if_pos c_7, if_pos (by first | exact c_25 | exact Int32.not_le.mp c_25)], _, hM, by rw [sPass, if_pos c_7, if_pos (by first | exact c_25 | exact Int32.not_le.mp c_25)]; exact hk, Same.rf⟩
  · refine aw_bipush (pc' := 12) (v := -2) eX7_pass_10 rfl (by decide) ?_
    refine aw_ret (v := some (.int _)) eX7_pass_12 ⟨rfl, rfl⟩ (by omega) (by omega) rfl ?_
    simp only [zb_eq0, Bool.not_eq_false, Bool.not_eq_true, decide_eq_true_eq, decide_eq_false_iff_not, Decidable.not_not] at c_7
    exact ⟨by simp [sPass, c_7], _, hM, by rw [sPass, if_neg (by rw [c_7]; decide)]; exact hk, Same.rf⟩
end M18
