/-! the class AmberGrains: weights, can, odds, mean, ends -/
section C18
variable {F : FT} {l : Launch} {G : GT} {d m t a : Nat} {g : Nat → Int32} {f : Nat → Int32} {h : Hp} {Q : Option Value → Hp → Prop} {bi se : Int32}

abbrev mX6_weights : MT := (RX6, cX6_weights, 4, (some .int), false)
theorem eX6_weights_0 : decode mX6_weights.2.1 0 = .ok (.aload_n 0, 1) := by decide +kernel
theorem eX6_weights_1 : decode mX6_weights.2.1 1 = .ok (.getfield 16, 3) := by decide +kernel
theorem eX6_weights_4 : decode mX6_weights.2.1 4 = .ok (.iload_n 1, 1) := by decide +kernel
theorem eX6_weights_5 : decode mX6_weights.2.1 5 = .ok (.invokevirtual 85, 3) := by decide +kernel
theorem eX6_weights_8 : decode mX6_weights.2.1 8 = .ok (.ifCond .ne 5, 3) := by decide +kernel
theorem eX6_weights_11 : decode mX6_weights.2.1 11 = .ok (.iconst (-1), 1) := by decide +kernel
theorem eX6_weights_12 : decode mX6_weights.2.1 12 = .ok (.ireturn, 1) := by decide +kernel
theorem eX6_weights_13 : decode mX6_weights.2.1 13 = .ok (.iconst 0, 1) := by decide +kernel
theorem eX6_weights_14 : decode mX6_weights.2.1 14 = .ok (.istore_n 2, 1) := by decide +kernel
theorem eX6_weights_15 : decode mX6_weights.2.1 15 = .ok (.iconst 0, 1) := by decide +kernel
theorem eX6_weights_16 : decode mX6_weights.2.1 16 = .ok (.istore_n 3, 1) := by decide +kernel
theorem eX6_weights_17 : decode mX6_weights.2.1 17 = .ok (.iload_n 3, 1) := by decide +kernel
theorem eX6_weights_18 : decode mX6_weights.2.1 18 = .ok (.bipush 20, 2) := by decide +kernel
theorem eX6_weights_20 : decode mX6_weights.2.1 20 = .ok (.if_icmp .gt 43, 3) := by decide +kernel
theorem eX6_weights_23 : decode mX6_weights.2.1 23 = .ok (.aload_n 0, 1) := by decide +kernel
theorem eX6_weights_24 : decode mX6_weights.2.1 24 = .ok (.getfield 21, 3) := by decide +kernel
theorem eX6_weights_27 : decode mX6_weights.2.1 27 = .ok (.aload_n 0, 1) := by decide +kernel
theorem eX6_weights_28 : decode mX6_weights.2.1 28 = .ok (.getfield 16, 3) := by decide +kernel
theorem eX6_weights_31 : decode mX6_weights.2.1 31 = .ok (.invokevirtual 118, 3) := by decide +kernel
theorem eX6_weights_34 : decode mX6_weights.2.1 34 = .ok (.aload_n 0, 1) := by decide +kernel
theorem eX6_weights_35 : decode mX6_weights.2.1 35 = .ok (.getfield 21, 3) := by decide +kernel
theorem eX6_weights_38 : decode mX6_weights.2.1 38 = .ok (.getfield 96, 3) := by decide +kernel
theorem eX6_weights_41 : decode mX6_weights.2.1 41 = .ok (.iload_n 1, 1) := by decide +kernel
theorem eX6_weights_42 : decode mX6_weights.2.1 42 = .ok (.iload_n 3, 1) := by decide +kernel
theorem eX6_weights_43 : decode mX6_weights.2.1 43 = .ok (.iastore, 1) := by decide +kernel
theorem eX6_weights_44 : decode mX6_weights.2.1 44 = .ok (.aload_n 0, 1) := by decide +kernel
theorem eX6_weights_45 : decode mX6_weights.2.1 45 = .ok (.invokevirtual 191, 3) := by decide +kernel
theorem eX6_weights_48 : decode mX6_weights.2.1 48 = .ok (.ifCond .eq 9, 3) := by decide +kernel
theorem eX6_weights_51 : decode mX6_weights.2.1 51 = .ok (.iload_n 2, 1) := by decide +kernel
theorem eX6_weights_52 : decode mX6_weights.2.1 52 = .ok (.iconst 1, 1) := by decide +kernel
theorem eX6_weights_53 : decode mX6_weights.2.1 53 = .ok (.iload_n 3, 1) := by decide +kernel
theorem eX6_weights_54 : decode mX6_weights.2.1 54 = .ok (.ishl, 1) := by decide +kernel
theorem eX6_weights_55 : decode mX6_weights.2.1 55 = .ok (.ior, 1) := by decide +kernel
theorem eX6_weights_56 : decode mX6_weights.2.1 56 = .ok (.istore_n 2, 1) := by decide +kernel
theorem eX6_weights_57 : decode mX6_weights.2.1 57 = .ok (.iinc 3 1, 3) := by decide +kernel
theorem eX6_weights_60 : decode mX6_weights.2.1 60 = .ok (.goto (-43), 3) := by decide +kernel
theorem eX6_weights_63 : decode mX6_weights.2.1 63 = .ok (.iload_n 2, 1) := by decide +kernel
theorem eX6_weights_64 : decode mX6_weights.2.1 64 = .ok (.ireturn, 1) := by decide +kernel
theorem lp_X6_weights (hg : gOk g m t) (hA : gAge g m t) (ht9 : t ≤ 20000) (hSe : SeR f g a) (hg2 : gS2 g m a) {b : Nat} (hb : b < m) (hm6 : m ≤ 6) (hd : 7 ≤ d) {h0 : Hp} (hQ : ∀ h', DT h' 27 (nI 2147483647) → Same 27 10 h0 h' → Q (some (.int (sFit1 F g m a t (10 * b + 2) 21))) h') : ∀ (j v : Nat) (y x2 : Int32) (h : Hp), j = 21 - v → v ≤ 21 → y = nI v → x2 = sFit1 F g m a t (10 * b + 2) v → OA h 16 (.inr (6, afs bi se)) → WF F h 17 g (nI 9999) → DT h 27 (nI 2147483647) → RAt h 47 5 a f → Same 27 10 h0 h → AW l G mX6_weights d 0 0 Q 0 0 h [some (.ref 16), some (.int (nI b)), some (.int x2), some (.int y)] [] 17 := by
  intro j
  induction j using Nat.strongRecOn with
  | _ j ih =>
    intro v y x2 h hj hv hy hx2 hO hN hT hS hs
    subst hy hx2
    refine aw_iload_n (pc' := 18) eX6_weights_17 rfl rfl ?_
    refine aw_bipush (pc' := 20) (v := 20) eX6_weights_18 rfl (by decide) ?_
    refine aw_icmp_gt (pc' := 23) (tgt := 63) eX6_weights_20 rfl (by decide) (fun c_20 => ?_) (fun c_20 => ?_)
    · have c9 : v = 21 := by have := (nI_ltI (a := 20) (b := v) (by omega) (by omega)).mp c_20; omega
      subst c9
      refine aw_iload_n (pc' := 64) eX6_weights_63 rfl rfl ?_
      refine aw_ret (v := some (.int _)) eX6_weights_64 ⟨rfl, rfl⟩ (by omega) (by omega) rfl ?_
      exact hQ _ hT hs
    · have c9 : v < 21 := by rcases Nat.lt_or_ge v 21 with z | z; exact z; exact absurd ((nI_ltI (a := 20) (b := v) (by omega) (by omega)).mpr (by omega)) c_20
      refine aw_aload_n (pc' := 24) eX6_weights_23 rfl rfl trivial ?_
      refine aw_Oget (pc' := 27) (ci := 6) (kf := 1) (N := 14) (.ref 27) hO eX6_weights_24 rfl rfl rfl inX6 (by decide) q251 rfl ?_
      refine aw_aload_n (pc' := 28) eX6_weights_27 rfl rfl trivial ?_
      refine aw_Oget (pc' := 31) (ci := 6) (kf := 0) (N := 14) (.ref 17) hO eX6_weights_28 rfl rfl rfl inX6 (by decide) q250 rfl ?_
      refine aw_callv (pc' := 34) (nn := 1) (c_X5_becomes (d := d - 1) hN hT (by omega) (by omega) (by omega)) eX6_weights_31 rfl ⟨q332, q335, q56⟩ q333 q334 ⟨rfl, by decide +kernel, by decide +kernel, by decide +kernel⟩ rfl hT.ob rfl ⟨by omega, by decide⟩ ⟨by omega, by omega⟩ rfl (Nat.le_of_ble_eq_true rfl) (fun v3 h4 hq5 => ?_)
      obtain ⟨rfl, hW1, hs2⟩ := hq5
      have hF6 := hO.fr hs2 (by omega)
      have hF7 := hN.fr hs2 (by omega)
      have hF8 := hS.fr hs2 (by omega)
      dsimp only [Option.toList, List.cons_append, List.nil_append]
      refine aw_aload_n (pc' := 35) eX6_weights_34 rfl rfl trivial ?_
      refine aw_Oget (pc' := 38) (ci := 6) (kf := 1) (N := 14) (.ref 27) hF6 eX6_weights_35 rfl rfl rfl inX6 (by decide) q251 rfl ?_
      refine aw_Fref (pc' := 41) (kf := 3) hW1 eX6_weights_38 rfl (by decide) q103 ?_
      refine aw_iload_n (pc' := 42) eX6_weights_41 rfl rfl ?_
      refine aw_iload_n (pc' := 43) eX6_weights_42 rfl rfl ?_
      refine aw_Fst (pc' := 44) 3 2 b hW1 eX6_weights_43 rfl (by decide) rfl (show vp_in _ 6 from vp_in_nI (by omega) (by omega)) (nI_clamp (by omega)) (fun h11 hW9 hs10 => ?_)
      have hT12 := hs2.tr hs10
      have hF13 := hF6.fr hs10 (by omega)
      have hF14 := hF7.fr hs10 (by omega)
      have hF15 := hF8.fr hs10 (by omega)
      refine aw_aload_n (pc' := 45) eX6_weights_44 rfl rfl trivial ?_
      refine aw_callv (pc' := 48) (nn := 0) (c_X6_trialIsAsSeen (d := d - 1) hF13 hW9 (gOk_of hg (upd_ne (by omega)) (upd_ne (by omega)) (upd_ne (by omega))) (hA.of fun j hj => upd_ne (by omega)) ht9 hF15 (hSe.of hg2.2.1 fun j h1 h2 => upd_ne (by omega)) (hg2.of fun j h1 h2 => upd_ne (by omega)) (by omega)) eX6_weights_45 rfl ⟨q637, q640, q55⟩ q639 q16 ⟨rfl, by decide +kernel, by decide +kernel, by decide +kernel⟩ rfl (by rw [hF13.1]; exact ⟨rfl, rfl⟩) rfl ⟨by omega, by decide⟩ ⟨by omega, by omega⟩ rfl (Nat.le_of_ble_eq_true rfl) (fun v18 h19 hq20 => ?_)
      obtain ⟨rfl, hW16, hs17⟩ := hq20
      have hT21 := hT12.tr hs17
      have hF22 := hF13.fr hs17 (by omega)
      have hF23 := hF14.fr hs17 (by omega)
      have hF24 := hF15.fr hs17 (by omega)
      dsimp only [Option.toList, List.cons_append, List.nil_append]
      refine aw_if_eq (pc' := 51) (tgt := 57) eX6_weights_48 rfl (by decide) (fun c_48 => ?_) (fun c_48 => ?_)
      · refine aw_iinc (pc' := 60) eX6_weights_57 rfl rfl rfl (by decide) ?_
        dsimp only [zst, zst2, zcut]
        refine aw_goto eX6_weights_60 (by decide) (tgt := 17) ?_
        exact ih (21 - (v + 1)) (by omega) (v + 1) _ _ _ rfl (by omega) (nI_inc v) (by rw [sFit1, if_neg (by rw [zb_eq0.mp c_48]; decide), Int32.or_zero]) hF22 hF23 hW16 hF24 (hs.tr hT21)
      · refine aw_iload_n (pc' := 52) eX6_weights_51 rfl rfl ?_
        refine aw_iconst (pc' := 53) (v := 1) eX6_weights_52 rfl (by decide) ?_
        refine aw_iload_n (pc' := 54) eX6_weights_53 rfl rfl ?_
        refine aw_ishl (pc' := 55) eX6_weights_54 rfl ?_
        refine aw_ior (pc' := 56) eX6_weights_55 rfl ?_
        refine aw_istore_n (pc' := 57) eX6_weights_56 rfl (by decide) ?_
        dsimp only [zst, zst2, zcut]
        refine aw_iinc (pc' := 60) eX6_weights_57 rfl rfl rfl (by decide) ?_
        dsimp only [zst, zst2, zcut]
        refine aw_goto eX6_weights_60 (by decide) (tgt := 17) ?_
        exact ih (21 - (v + 1)) (by omega) (v + 1) _ _ _ rfl (by omega) (nI_inc v) (by rw [sFit1, if_pos (zb_ne0.mp c_48)]) hF22 hF23 hW16 hF24 (hs.tr hT21)
theorem c_X6_weights (hO : OA h 16 (.inr (6, afs bi se))) (hN : WF F h 17 g (nI 9999)) (hT : DT h 27 (nI 2147483647)) (hg : gOk g m t) (hA : gAge g m t) (ht9 : t ≤ 20000) (hS : RAt h 47 5 a f) (hSe : SeR f g a) (hg2 : gS2 g m a) (tl : Int32) (hd : 7 ≤ d) : Ct l G mX6_weights yX6_weights d 0 0 [.ref 16, .int tl] h (fun r h' => r = some (.int (sWeights F g m a t tl)) ∧ DT h' 27 (nI 2147483647) ∧ Same 27 10 h h') := by
  refine ct_of (lv := [some (.ref 16), some (.int tl), none, none]) (by decide +kernel) rfl (fun z => by cases z) (fun _ => rfl) (fun _ => Nat.le_of_ble_eq_true rfl) ?_
  have hgg := hg
  obtain ⟨hm, hm6, ht, ht2, hgq⟩ := hgg
  refine aw_aload_n (pc' := 1) eX6_weights_0 rfl rfl trivial ?_
  refine aw_Oget (pc' := 4) (ci := 6) (kf := 0) (N := 14) (.ref 17) hO eX6_weights_1 rfl rfl rfl inX6 (by decide) q250 rfl ?_
  refine aw_iload_n (pc' := 5) eX6_weights_4 rfl rfl ?_
  refine aw_callv (pc' := 8) (nn := 1) (c_X5_has (d := d - 1) hN hm hm6 _ (by omega)) eX6_weights_5 rfl ⟨q305, q308, q56⟩ q306 q307 ⟨rfl, by decide +kernel, by decide +kernel, by decide +kernel⟩ rfl hN.ob rfl ⟨by omega, by decide⟩ ⟨by omega, by omega⟩ rfl (Nat.le_of_ble_eq_true rfl) (fun v1 h2 hq3 => ?_)
  obtain ⟨rfl, rfl⟩ := hq3
  dsimp only [Option.toList, List.cons_append, List.nil_append]
  refine aw_if_ne (pc' := 11) (tgt := 13) eX6_weights_8 rfl (by decide) (fun c_8 => ?_) (fun c_8 => ?_)
  · have hb9 := zb_ne0.mp c_8
    obtain ⟨b, hb, rfl⟩ := (bIn_one hm6).mp hb9
    have clb : (nI b).toNatClampNeg = b := nI_clamp (by omega)
    refine aw_iconst (pc' := 14) (v := 0) eX6_weights_13 rfl (by decide) ?_
    refine aw_istore_n (pc' := 15) eX6_weights_14 rfl (by decide) ?_
    dsimp only [zst, zst2, zcut]
    refine aw_iconst (pc' := 16) (v := 0) eX6_weights_15 rfl (by decide) ?_
    refine aw_istore_n (pc' := 17) eX6_weights_16 rfl (by decide) ?_
    dsimp only [zst, zst2, zcut]
    refine lp_X6_weights hg hA ht9 hSe hg2 hb hm6 (by omega) (fun h' x y => ⟨?_, x, y⟩) 21 0 _ _ _ (by omega) (by omega) rfl rfl hO hN hT hS Same.rf
    rw [sWeights, if_pos hb9, clb]
  · refine aw_iconst (pc' := 12) (v := -1) eX6_weights_11 rfl (by decide) ?_
    refine aw_ret (v := some (.int _)) eX6_weights_12 ⟨rfl, rfl⟩ (by omega) (by omega) rfl ?_
    rw [sWeights, if_neg (by rw [(zb_eq0.mp c_8)]; decide)]
    exact ⟨rfl, hT, Same.rf⟩
abbrev mX6_can : MT := (RX6, cX6_can, 6, (some .int), false)
theorem eX6_can_0 : decode mX6_can.2.1 0 = .ok (.aload_n 0, 1) := by decide +kernel
theorem eX6_can_1 : decode mX6_can.2.1 1 = .ok (.getfield 16, 3) := by decide +kernel
theorem eX6_can_4 : decode mX6_can.2.1 4 = .ok (.iload_n 1, 1) := by decide +kernel
theorem eX6_can_5 : decode mX6_can.2.1 5 = .ok (.invokevirtual 85, 3) := by decide +kernel
theorem eX6_can_8 : decode mX6_can.2.1 8 = .ok (.ifCond .eq 12, 3) := by decide +kernel
theorem eX6_can_11 : decode mX6_can.2.1 11 = .ok (.iload_n 2, 1) := by decide +kernel
theorem eX6_can_12 : decode mX6_can.2.1 12 = .ok (.ifCond .lt 8, 3) := by decide +kernel
theorem eX6_can_15 : decode mX6_can.2.1 15 = .ok (.iload_n 2, 1) := by decide +kernel
theorem eX6_can_16 : decode mX6_can.2.1 16 = .ok (.iconst 1, 1) := by decide +kernel
theorem eX6_can_17 : decode mX6_can.2.1 17 = .ok (.if_icmp .le 5, 3) := by decide +kernel
theorem eX6_can_20 : decode mX6_can.2.1 20 = .ok (.iconst (-1), 1) := by decide +kernel
theorem eX6_can_21 : decode mX6_can.2.1 21 = .ok (.ireturn, 1) := by decide +kernel
theorem eX6_can_22 : decode mX6_can.2.1 22 = .ok (.iconst 0, 1) := by decide +kernel
theorem eX6_can_23 : decode mX6_can.2.1 23 = .ok (.istore_n 3, 1) := by decide +kernel
theorem eX6_can_24 : decode mX6_can.2.1 24 = .ok (.bipush (-5), 2) := by decide +kernel
theorem eX6_can_26 : decode mX6_can.2.1 26 = .ok (.istore 4, 2) := by decide +kernel
theorem eX6_can_28 : decode mX6_can.2.1 28 = .ok (.iconst 0, 1) := by decide +kernel
theorem eX6_can_29 : decode mX6_can.2.1 29 = .ok (.istore 5, 2) := by decide +kernel
theorem eX6_can_31 : decode mX6_can.2.1 31 = .ok (.iload 5, 2) := by decide +kernel
theorem eX6_can_33 : decode mX6_can.2.1 33 = .ok (.bipush 9, 2) := by decide +kernel
theorem eX6_can_35 : decode mX6_can.2.1 35 = .ok (.if_icmp .gt 57, 3) := by decide +kernel
theorem eX6_can_38 : decode mX6_can.2.1 38 = .ok (.aload_n 0, 1) := by decide +kernel
theorem eX6_can_39 : decode mX6_can.2.1 39 = .ok (.getfield 21, 3) := by decide +kernel
theorem eX6_can_42 : decode mX6_can.2.1 42 = .ok (.aload_n 0, 1) := by decide +kernel
theorem eX6_can_43 : decode mX6_can.2.1 43 = .ok (.getfield 16, 3) := by decide +kernel
theorem eX6_can_46 : decode mX6_can.2.1 46 = .ok (.invokevirtual 118, 3) := by decide +kernel
theorem eX6_can_49 : decode mX6_can.2.1 49 = .ok (.aload_n 0, 1) := by decide +kernel
theorem eX6_can_50 : decode mX6_can.2.1 50 = .ok (.getfield 21, 3) := by decide +kernel
theorem eX6_can_53 : decode mX6_can.2.1 53 = .ok (.getfield 93, 3) := by decide +kernel
theorem eX6_can_56 : decode mX6_can.2.1 56 = .ok (.iload_n 1, 1) := by decide +kernel
theorem eX6_can_57 : decode mX6_can.2.1 57 = .ok (.iload 5, 2) := by decide +kernel
theorem eX6_can_59 : decode mX6_can.2.1 59 = .ok (.iastore, 1) := by decide +kernel
theorem eX6_can_60 : decode mX6_can.2.1 60 = .ok (.aload_n 0, 1) := by decide +kernel
theorem eX6_can_61 : decode mX6_can.2.1 61 = .ok (.invokevirtual 191, 3) := by decide +kernel
theorem eX6_can_64 : decode mX6_can.2.1 64 = .ok (.ifCond .eq 22, 3) := by decide +kernel
theorem eX6_can_67 : decode mX6_can.2.1 67 = .ok (.iinc 3 1, 3) := by decide +kernel
theorem eX6_can_70 : decode mX6_can.2.1 70 = .ok (.iload 4, 2) := by decide +kernel
theorem eX6_can_72 : decode mX6_can.2.1 72 = .ok (.bipush (-5), 2) := by decide +kernel
theorem eX6_can_74 : decode mX6_can.2.1 74 = .ok (.if_icmp .ne 8, 3) := by decide +kernel
theorem eX6_can_77 : decode mX6_can.2.1 77 = .ok (.iload 5, 2) := by decide +kernel
theorem eX6_can_79 : decode mX6_can.2.1 79 = .ok (.goto 5, 3) := by decide +kernel
theorem eX6_can_82 : decode mX6_can.2.1 82 = .ok (.iload 4, 2) := by decide +kernel
theorem eX6_can_84 : decode mX6_can.2.1 84 = .ok (.istore 4, 2) := by decide +kernel
theorem eX6_can_86 : decode mX6_can.2.1 86 = .ok (.iinc 5 1, 3) := by decide +kernel
theorem eX6_can_89 : decode mX6_can.2.1 89 = .ok (.goto (-58), 3) := by decide +kernel
theorem eX6_can_92 : decode mX6_can.2.1 92 = .ok (.iload_n 2, 1) := by decide +kernel
theorem eX6_can_93 : decode mX6_can.2.1 93 = .ok (.ifCond .ne 7, 3) := by decide +kernel
theorem eX6_can_96 : decode mX6_can.2.1 96 = .ok (.iload_n 3, 1) := by decide +kernel
theorem eX6_can_97 : decode mX6_can.2.1 97 = .ok (.goto 5, 3) := by decide +kernel
theorem eX6_can_100 : decode mX6_can.2.1 100 = .ok (.iload 4, 2) := by decide +kernel
theorem eX6_can_102 : decode mX6_can.2.1 102 = .ok (.ireturn, 1) := by decide +kernel
theorem lp_X6_can (hg : gOk g m t) (hA : gAge g m t) (ht9 : t ≤ 20000) (hSe : SeR f g a) (hg2 : gS2 g m a) {b : Nat} (hb : b < m) (hm6 : m ≤ 6) {w : Int32} (hd : 7 ≤ d) {h0 : Hp} (hQ : ∀ h', DT h' 27 (nI 2147483647) → Same 27 10 h0 h' → Q (some (.int (if w = 0 then (cC (fun v => sAll F m a 13 0 t (upd g (10 * b + 1) (nI v))) 10).1 else (cC (fun v => sAll F m a 13 0 t (upd g (10 * b + 1) (nI v))) 10).2))) h') : ∀ (j v : Nat) (y x3 x4 : Int32) (h : Hp), j = 10 - v → v ≤ 10 → y = nI v → x3 = (cC (fun v => sAll F m a 13 0 t (upd g (10 * b + 1) (nI v))) v).1 → x4 = (cC (fun v => sAll F m a 13 0 t (upd g (10 * b + 1) (nI v))) v).2 → OA h 16 (.inr (6, afs bi se)) → WF F h 17 g (nI 9999) → DT h 27 (nI 2147483647) → RAt h 47 5 a f → Same 27 10 h0 h → AW l G mX6_can d 0 0 Q 0 0 h [some (.ref 16), some (.int (nI b)), some (.int w), some (.int x3), some (.int x4), some (.int y)] [] 31 := by
  intro j
  induction j using Nat.strongRecOn with
  | _ j ih =>
    intro v y x3 x4 h hj hv hy hx3 hx4 hO hN hT hS hs
    subst hy hx3 hx4
    refine aw_iload (pc' := 33) eX6_can_31 rfl rfl ?_
    refine aw_bipush (pc' := 35) (v := 9) eX6_can_33 rfl (by decide) ?_
    refine aw_icmp_gt (pc' := 38) (tgt := 92) eX6_can_35 rfl (by decide) (fun c_35 => ?_) (fun c_35 => ?_)
    · have c9 : v = 10 := by have := (nI_ltI (a := 9) (b := v) (by omega) (by omega)).mp c_35; omega
      subst c9
      refine aw_iload_n (pc' := 93) eX6_can_92 rfl rfl ?_
      refine aw_if_ne (pc' := 96) (tgt := 100) eX6_can_93 rfl (by decide) (fun c_93 => ?_) (fun c_93 => ?_)
      · refine aw_iload (pc' := 102) eX6_can_100 rfl rfl ?_
        refine aw_ret (v := some (.int _)) eX6_can_102 ⟨rfl, rfl⟩ (by omega) (by omega) rfl ?_
        rw [if_neg c_93] at hQ
        exact hQ _ hT hs
      · refine aw_iload_n (pc' := 97) eX6_can_96 rfl rfl ?_
        refine aw_goto eX6_can_97 (by decide) (tgt := 102) ?_
        refine aw_ret (v := some (.int _)) eX6_can_102 ⟨rfl, rfl⟩ (by omega) (by omega) rfl ?_
        rw [if_pos c_93] at hQ
        exact hQ _ hT hs
    · have c9 : v < 10 := by rcases Nat.lt_or_ge v 10 with z | z; exact z; exact absurd ((nI_ltI (a := 9) (b := v) (by omega) (by omega)).mpr (by omega)) c_35
      refine aw_aload_n (pc' := 39) eX6_can_38 rfl rfl trivial ?_
      refine aw_Oget (pc' := 42) (ci := 6) (kf := 1) (N := 14) (.ref 27) hO eX6_can_39 rfl rfl rfl inX6 (by decide) q251 rfl ?_
      refine aw_aload_n (pc' := 43) eX6_can_42 rfl rfl trivial ?_
      refine aw_Oget (pc' := 46) (ci := 6) (kf := 0) (N := 14) (.ref 17) hO eX6_can_43 rfl rfl rfl inX6 (by decide) q250 rfl ?_
      refine aw_callv (pc' := 49) (nn := 1) (c_X5_becomes (d := d - 1) hN hT (by omega) (by omega) (by omega)) eX6_can_46 rfl ⟨q332, q335, q56⟩ q333 q334 ⟨rfl, by decide +kernel, by decide +kernel, by decide +kernel⟩ rfl hT.ob rfl ⟨by omega, by decide⟩ ⟨by omega, by omega⟩ rfl (Nat.le_of_ble_eq_true rfl) (fun v3 h4 hq5 => ?_)
      obtain ⟨rfl, hW1, hs2⟩ := hq5
      have hF6 := hO.fr hs2 (by omega)
      have hF7 := hN.fr hs2 (by omega)
      have hF8 := hS.fr hs2 (by omega)
      dsimp only [Option.toList, List.cons_append, List.nil_append]
      refine aw_aload_n (pc' := 50) eX6_can_49 rfl rfl trivial ?_
      refine aw_Oget (pc' := 53) (ci := 6) (kf := 1) (N := 14) (.ref 27) hF6 eX6_can_50 rfl rfl rfl inX6 (by decide) q251 rfl ?_
      refine aw_Fref (pc' := 56) (kf := 2) hW1 eX6_can_53 rfl (by decide) q101 ?_
      refine aw_iload_n (pc' := 57) eX6_can_56 rfl rfl ?_
      refine aw_iload (pc' := 59) eX6_can_57 rfl rfl ?_
      refine aw_Fst (pc' := 60) 2 1 b hW1 eX6_can_59 rfl (by decide) rfl (show vp_in _ 6 from vp_in_nI (by omega) (by omega)) (nI_clamp (by omega)) (fun h11 hW9 hs10 => ?_)
      have hT12 := hs2.tr hs10
      have hF13 := hF6.fr hs10 (by omega)
      have hF14 := hF7.fr hs10 (by omega)
      have hF15 := hF8.fr hs10 (by omega)
      refine aw_aload_n (pc' := 61) eX6_can_60 rfl rfl trivial ?_
      refine aw_callv (pc' := 64) (nn := 0) (c_X6_trialIsAsSeen (d := d - 1) hF13 hW9 (gOk_of hg (upd_ne (by omega)) (upd_ne (by omega)) (upd_ne (by omega))) (hA.of fun j hj => upd_ne (by omega)) ht9 hF15 (hSe.of hg2.2.1 fun j h1 h2 => upd_ne (by omega)) (hg2.of fun j h1 h2 => upd_ne (by omega)) (by omega)) eX6_can_61 rfl ⟨q637, q640, q55⟩ q639 q16 ⟨rfl, by decide +kernel, by decide +kernel, by decide +kernel⟩ rfl (by rw [hF13.1]; exact ⟨rfl, rfl⟩) rfl ⟨by omega, by decide⟩ ⟨by omega, by omega⟩ rfl (Nat.le_of_ble_eq_true rfl) (fun v18 h19 hq20 => ?_)
      obtain ⟨rfl, hW16, hs17⟩ := hq20
      have hT21 := hT12.tr hs17
      have hF22 := hF13.fr hs17 (by omega)
      have hF23 := hF14.fr hs17 (by omega)
      have hF24 := hF15.fr hs17 (by omega)
      dsimp only [Option.toList, List.cons_append, List.nil_append]
      refine aw_if_eq (pc' := 67) (tgt := 86) eX6_can_64 rfl (by decide) (fun c_64 => ?_) (fun c_64 => ?_)
      · refine aw_iinc (pc' := 89) eX6_can_86 rfl rfl rfl (by decide) ?_
        dsimp only [zst, zst2, zcut]
        refine aw_goto eX6_can_89 (by decide) (tgt := 31) ?_
        refine ih (10 - (v + 1)) (by omega) (v + 1) _ _ _ _ rfl (by omega) (nI_inc v) ?_ ?_ hF22 hF23 hW16 hF24 (hs.tr hT21)
        · rw [cC, if_neg (by rw [zb_eq0.mp c_64]; decide)]
        · rw [cC, if_neg (by rw [zb_eq0.mp c_64]; decide)]
      · refine aw_iinc (pc' := 70) eX6_can_67 rfl rfl rfl (by decide) ?_
        dsimp only [zst, zst2, zcut]
        refine aw_iload (pc' := 72) eX6_can_70 rfl rfl ?_
        refine aw_bipush (pc' := 74) (v := -5) eX6_can_72 rfl (by decide) ?_
        refine aw_icmp_ne (pc' := 77) (tgt := 82) eX6_can_74 rfl (by decide) (fun c_74 => ?_) (fun c_74 => ?_)
        · refine aw_iload (pc' := 84) eX6_can_82 rfl rfl ?_
          refine aw_istore (pc' := 86) eX6_can_84 rfl (by decide) ?_
          dsimp only [zst, zst2, zcut]
          refine aw_iinc (pc' := 89) eX6_can_86 rfl rfl rfl (by decide) ?_
          dsimp only [zst, zst2, zcut]
          refine aw_goto eX6_can_89 (by decide) (tgt := 31) ?_
          refine ih (10 - (v + 1)) (by omega) (v + 1) _ _ _ _ rfl (by omega) (nI_inc v) ?_ ?_ hF22 hF23 hW16 hF24 (hs.tr hT21)
          · rw [cC, if_pos (zb_ne0.mp c_64)]; rfl
          · rw [cC, if_pos (zb_ne0.mp c_64)]
            exact (if_neg c_74).symm
        · refine aw_iload (pc' := 79) eX6_can_77 rfl rfl ?_
          refine aw_goto eX6_can_79 (by decide) (tgt := 84) ?_
          refine aw_istore (pc' := 86) eX6_can_84 rfl (by decide) ?_
          dsimp only [zst, zst2, zcut]
          refine aw_iinc (pc' := 89) eX6_can_86 rfl rfl rfl (by decide) ?_
          dsimp only [zst, zst2, zcut]
          refine aw_goto eX6_can_89 (by decide) (tgt := 31) ?_
          refine ih (10 - (v + 1)) (by omega) (v + 1) _ _ _ _ rfl (by omega) (nI_inc v) ?_ ?_ hF22 hF23 hW16 hF24 (hs.tr hT21)
          · rw [cC, if_pos (zb_ne0.mp c_64)]; rfl
          · rw [cC, if_pos (zb_ne0.mp c_64)]
            exact (if_pos c_74).symm
theorem c_X6_can (hO : OA h 16 (.inr (6, afs bi se))) (hN : WF F h 17 g (nI 9999)) (hT : DT h 27 (nI 2147483647)) (hg : gOk g m t) (hA : gAge g m t) (ht9 : t ≤ 20000) (hS : RAt h 47 5 a f) (hSe : SeR f g a) (hg2 : gS2 g m a) (tl w : Int32) (hd : 7 ≤ d) : Ct l G mX6_can yX6_can d 0 0 [.ref 16, .int tl, .int w] h (fun r h' => r = some (.int (sCan F g m a t tl w)) ∧ DT h' 27 (nI 2147483647) ∧ Same 27 10 h h') := by
  refine ct_of (lv := [some (.ref 16), some (.int tl), some (.int w), none, none, none]) (by decide +kernel) rfl (fun z => by cases z) (fun _ => rfl) (fun _ => Nat.le_of_ble_eq_true rfl) ?_
  have hgg := hg
  obtain ⟨hm, hm6, ht, ht2, hgq⟩ := hgg
  refine aw_aload_n (pc' := 1) eX6_can_0 rfl rfl trivial ?_
  refine aw_Oget (pc' := 4) (ci := 6) (kf := 0) (N := 14) (.ref 17) hO eX6_can_1 rfl rfl rfl inX6 (by decide) q250 rfl ?_
  refine aw_iload_n (pc' := 5) eX6_can_4 rfl rfl ?_
  refine aw_callv (pc' := 8) (nn := 1) (c_X5_has (d := d - 1) hN hm hm6 _ (by omega)) eX6_can_5 rfl ⟨q305, q308, q56⟩ q306 q307 ⟨rfl, by decide +kernel, by decide +kernel, by decide +kernel⟩ rfl hN.ob rfl ⟨by omega, by decide⟩ ⟨by omega, by omega⟩ rfl (Nat.le_of_ble_eq_true rfl) (fun v1 h2 hq3 => ?_)
  obtain ⟨rfl, rfl⟩ := hq3
  dsimp only [Option.toList, List.cons_append, List.nil_append]
  refine aw_if_eq (pc' := 11) (tgt := 20) eX6_can_8 rfl (by decide) (fun c_8 => ?_) (fun c_8 => ?_)
  · refine aw_iconst (pc' := 21) (v := -1) eX6_can_20 rfl (by decide) ?_
    refine aw_ret (v := some (.int _)) eX6_can_21 ⟨rfl, rfl⟩ (by omega) (by omega) rfl ?_
    rw [sCan, if_neg (fun z => by rw [(zb_eq0.mp c_8)] at z; exact absurd z.1 (by decide))]
    exact ⟨rfl, hT, Same.rf⟩
  · have hb9 := zb_ne0.mp c_8
    obtain ⟨b, hb, rfl⟩ := (bIn_one hm6).mp hb9
    have clb : (nI b).toNatClampNeg = b := nI_clamp (by omega)
    refine aw_iload_n (pc' := 12) eX6_can_11 rfl rfl ?_
    refine aw_if_lt (pc' := 15) (tgt := 20) eX6_can_12 rfl (by decide) (fun c_12 => ?_) (fun c_12 => ?_)
    · refine aw_iconst (pc' := 21) (v := -1) eX6_can_20 rfl (by decide) ?_
      refine aw_ret (v := some (.int _)) eX6_can_21 ⟨rfl, rfl⟩ (by omega) (by omega) rfl ?_
      rw [sCan, if_neg (fun z => by rw [(bI_f1 c_12)] at z; exact absurd z.2 (by decide))]
      exact ⟨rfl, hT, Same.rf⟩
    · refine aw_iload_n (pc' := 16) eX6_can_15 rfl rfl ?_
      refine aw_iconst (pc' := 17) (v := 1) eX6_can_16 rfl (by decide) ?_
      refine aw_icmp_le (pc' := 20) (tgt := 22) eX6_can_17 rfl (by decide) (fun c_17 => ?_) (fun c_17 => ?_)
      · refine aw_iconst (pc' := 23) (v := 0) eX6_can_22 rfl (by decide) ?_
        refine aw_istore_n (pc' := 24) eX6_can_23 rfl (by decide) ?_
        dsimp only [zst, zst2, zcut]
        refine aw_bipush (pc' := 26) (v := -5) eX6_can_24 rfl (by decide) ?_
        refine aw_istore (pc' := 28) eX6_can_26 rfl (by decide) ?_
        dsimp only [zst, zst2, zcut]
        refine aw_iconst (pc' := 29) (v := 0) eX6_can_28 rfl (by decide) ?_
        refine aw_istore (pc' := 31) eX6_can_29 rfl (by decide) ?_
        dsimp only [zst, zst2, zcut]
        refine lp_X6_can hg hA ht9 hSe hg2 hb hm6 (by omega) (fun h' x y => ⟨?_, x, y⟩) 10 0 _ _ _ _ (by omega) (by omega) rfl rfl rfl hO hN hT hS Same.rf
        rw [sCan, if_pos (show bIn (nI b) 0 (nI m - 1) = true ∧ bIn w 0 1 = true from ⟨hb9, bI_tle c_12 c_17⟩), clb, sFit_B, can_B]
      · refine aw_iconst (pc' := 21) (v := -1) eX6_can_20 rfl (by decide) ?_
        refine aw_ret (v := some (.int _)) eX6_can_21 ⟨rfl, rfl⟩ (by omega) (by omega) rfl ?_
        rw [sCan, if_neg (fun z => by rw [(bI_fle c_17)] at z; exact absurd z.2 (by decide))]
        exact ⟨rfl, hT, Same.rf⟩
abbrev mX6_odds : MT := (RX6, cX6_odds, 6, (some .long), false)
theorem eX6_odds_0 : decode mX6_odds.2.1 0 = .ok (.aload_n 0, 1) := by decide +kernel
theorem eX6_odds_1 : decode mX6_odds.2.1 1 = .ok (.getfield 16, 3) := by decide +kernel
theorem eX6_odds_4 : decode mX6_odds.2.1 4 = .ok (.iload_n 1, 1) := by decide +kernel
theorem eX6_odds_5 : decode mX6_odds.2.1 5 = .ok (.invokevirtual 85, 3) := by decide +kernel
theorem eX6_odds_8 : decode mX6_odds.2.1 8 = .ok (.ifCond .eq 22, 3) := by decide +kernel
theorem eX6_odds_11 : decode mX6_odds.2.1 11 = .ok (.iload_n 2, 1) := by decide +kernel
theorem eX6_odds_12 : decode mX6_odds.2.1 12 = .ok (.ifCond .lt 18, 3) := by decide +kernel
theorem eX6_odds_15 : decode mX6_odds.2.1 15 = .ok (.iload_n 2, 1) := by decide +kernel
theorem eX6_odds_16 : decode mX6_odds.2.1 16 = .ok (.bipush 20, 2) := by decide +kernel
theorem eX6_odds_18 : decode mX6_odds.2.1 18 = .ok (.if_icmp .gt 12, 3) := by decide +kernel
theorem eX6_odds_21 : decode mX6_odds.2.1 21 = .ok (.iload_n 3, 1) := by decide +kernel
theorem eX6_odds_22 : decode mX6_odds.2.1 22 = .ok (.ifCond .lt 8, 3) := by decide +kernel
theorem eX6_odds_25 : decode mX6_odds.2.1 25 = .ok (.iload_n 3, 1) := by decide +kernel
theorem eX6_odds_26 : decode mX6_odds.2.1 26 = .ok (.iconst 1, 1) := by decide +kernel
theorem eX6_odds_27 : decode mX6_odds.2.1 27 = .ok (.if_icmp .le 7, 3) := by decide +kernel
theorem eX6_odds_30 : decode mX6_odds.2.1 30 = .ok (.ldc2_w 195, 3) := by decide +kernel
theorem eX6_odds_33 : decode mX6_odds.2.1 33 = .ok (.lreturn, 1) := by decide +kernel
theorem eX6_odds_34 : decode mX6_odds.2.1 34 = .ok (.iconst 0, 1) := by decide +kernel
theorem eX6_odds_35 : decode mX6_odds.2.1 35 = .ok (.istore 4, 2) := by decide +kernel
theorem eX6_odds_37 : decode mX6_odds.2.1 37 = .ok (.iconst 0, 1) := by decide +kernel
theorem eX6_odds_38 : decode mX6_odds.2.1 38 = .ok (.istore 5, 2) := by decide +kernel
theorem eX6_odds_40 : decode mX6_odds.2.1 40 = .ok (.iload 5, 2) := by decide +kernel
theorem eX6_odds_42 : decode mX6_odds.2.1 42 = .ok (.bipush 12, 2) := by decide +kernel
theorem eX6_odds_44 : decode mX6_odds.2.1 44 = .ok (.if_icmp .ge 32, 3) := by decide +kernel
theorem eX6_odds_47 : decode mX6_odds.2.1 47 = .ok (.aload_n 0, 1) := by decide +kernel
theorem eX6_odds_48 : decode mX6_odds.2.1 48 = .ok (.iload 5, 2) := by decide +kernel
theorem eX6_odds_50 : decode mX6_odds.2.1 50 = .ok (.iload_n 2, 1) := by decide +kernel
theorem eX6_odds_51 : decode mX6_odds.2.1 51 = .ok (.invokevirtual 182, 3) := by decide +kernel
theorem eX6_odds_54 : decode mX6_odds.2.1 54 = .ok (.aload_n 0, 1) := by decide +kernel
theorem eX6_odds_55 : decode mX6_odds.2.1 55 = .ok (.getfield 21, 3) := by decide +kernel
theorem eX6_odds_58 : decode mX6_odds.2.1 58 = .ok (.getfield 99, 3) := by decide +kernel
theorem eX6_odds_61 : decode mX6_odds.2.1 61 = .ok (.iload_n 1, 1) := by decide +kernel
theorem eX6_odds_62 : decode mX6_odds.2.1 62 = .ok (.iaload, 1) := by decide +kernel
theorem eX6_odds_63 : decode mX6_odds.2.1 63 = .ok (.iconst 4, 1) := by decide +kernel
theorem eX6_odds_64 : decode mX6_odds.2.1 64 = .ok (.if_icmp .ne 6, 3) := by decide +kernel
theorem eX6_odds_67 : decode mX6_odds.2.1 67 = .ok (.iinc 4 1, 3) := by decide +kernel
theorem eX6_odds_70 : decode mX6_odds.2.1 70 = .ok (.iinc 5 1, 3) := by decide +kernel
theorem eX6_odds_73 : decode mX6_odds.2.1 73 = .ok (.goto (-33), 3) := by decide +kernel
theorem eX6_odds_76 : decode mX6_odds.2.1 76 = .ok (.iload 4, 2) := by decide +kernel
theorem eX6_odds_78 : decode mX6_odds.2.1 78 = .ok (.bipush 12, 2) := by decide +kernel
theorem eX6_odds_80 : decode mX6_odds.2.1 80 = .ok (.iload_n 3, 1) := by decide +kernel
theorem eX6_odds_81 : decode mX6_odds.2.1 81 = .ok (.invokestatic 197, 3) := by decide +kernel
theorem eX6_odds_84 : decode mX6_odds.2.1 84 = .ok (.lreturn, 1) := by decide +kernel
theorem lp_X6_odds (hg : gOk g m t) (hA : gAge g m t) (ht9 : t ≤ 20000) {b x : Nat} (hb6 : b < 6) (hx20 : x ≤ 20) {w : Int32} (hd : 9 ≤ d) {h0 : Hp} (hQ : ∀ h', DT h' 27 (nI 2147483647) → Same 27 10 h0 h' → Q (some (.long (sFrac (sOdd F g m t x b 12).toInt64 12 w))) h') : ∀ (j p : Nat) (y x4 : Int32) (h : Hp), j = 12 - p → p ≤ 12 → y = nI p → x4 = sOdd F g m t x b p → OA h 16 (.inr (6, afs bi se)) → WF F h 17 g (nI 9999) → DT h 27 (nI 2147483647) → Same 27 10 h0 h → AW l G mX6_odds d 0 0 Q 0 0 h [some (.ref 16), some (.int (nI b)), some (.int (nI x)), some (.int w), some (.int x4), some (.int y)] [] 40 := by
  intro j
  induction j using Nat.strongRecOn with
  | _ j ih =>
    intro p y x4 h hj hp hy hx4 hO hN hT hs
    subst hy hx4
    refine aw_iload (pc' := 42) eX6_odds_40 rfl rfl ?_
    refine aw_bipush (pc' := 44) (v := 12) eX6_odds_42 rfl (by decide) ?_
    refine aw_icmp_ge (pc' := 47) (tgt := 76) eX6_odds_44 rfl (by decide) (fun c_44 => ?_) (fun c_44 => ?_)
    · have c9 := ge_nI (b := 12) (by omega) (by omega) c_44
      obtain rfl : p = 12 := by omega
      refine aw_iload (pc' := 78) eX6_odds_76 rfl rfl ?_
      refine aw_bipush (pc' := 80) (v := 12) eX6_odds_78 rfl (by decide) ?_
      refine aw_iload_n (pc' := 81) eX6_odds_80 rfl rfl ?_
      refine aw_calls (pc' := 84) (nn := 3) (c_X6_inLowestTerms (d := d - 1) _ (b := 12) (by omega) (by omega) _ (by omega)) eX6_odds_81 rfl ⟨q659, q661, q55⟩ q660 ⟨by decide +kernel, by decide +kernel, by decide +kernel⟩ rfl ⟨by omega, by decide⟩ ⟨by omega, by omega⟩ rfl (Nat.le_of_ble_eq_true rfl) (fun v1 h2 hq3 => ?_)
      obtain ⟨rfl, rfl⟩ := hq3
      dsimp only [Option.toList, List.cons_append, List.nil_append]
      refine aw_ret (v := some (.long _)) eX6_odds_84 ⟨rfl, rfl⟩ (by omega) (by omega) rfl ?_
      exact hQ _ hT hs
    · have c9 : p < 12 := nge_nI (b := 12) (by omega) (by omega) c_44
      refine aw_aload_n (pc' := 48) eX6_odds_47 rfl rfl trivial ?_
      refine aw_iload (pc' := 50) eX6_odds_48 rfl rfl ?_
      refine aw_iload_n (pc' := 51) eX6_odds_50 rfl rfl ?_
      refine aw_callv (pc' := 54) (nn := 2) (c_X6_trialFromFinderAt (d := d - 1) hO hN hT hg hA ht9 (p := p) (x := x) (by omega) (by omega)) eX6_odds_51 rfl ⟨q617, q620, q55⟩ q619 q15 ⟨rfl, by decide +kernel, by decide +kernel, by decide +kernel⟩ rfl (by rw [hO.1]; exact ⟨rfl, rfl⟩) rfl ⟨by omega, by decide⟩ ⟨by omega, by omega⟩ rfl (Nat.le_of_ble_eq_true rfl) (fun v6 h7 hq8 => ?_)
      obtain ⟨rfl, hW4, hs5⟩ := hq8
      have hF9 := hO.fr hs5 (by omega)
      have hF10 := hN.fr hs5 (by omega)
      dsimp only [Option.toList, List.cons_append, List.nil_append]
      refine aw_aload_n (pc' := 55) eX6_odds_54 rfl rfl trivial ?_
      refine aw_Oget (pc' := 58) (ci := 6) (kf := 1) (N := 14) (.ref 27) hF9 eX6_odds_55 rfl rfl rfl inX6 (by decide) q251 rfl ?_
      refine aw_Fref (pc' := 61) (kf := 4) hW4 eX6_odds_58 rfl (by decide) q105 ?_
      refine aw_iload_n (pc' := 62) eX6_odds_61 rfl rfl ?_
      refine aw_Fld (pc' := 63) 4 3 b hW4 eX6_odds_62 rfl (by decide) rfl (show vp_in _ 6 from vp_in_nI (by omega) (by omega)) (nI_clamp (by omega)) ?_
      refine aw_iconst (pc' := 64) (v := 4) eX6_odds_63 rfl (by decide) ?_
      refine aw_icmp_ne (pc' := 67) (tgt := 70) eX6_odds_64 rfl (by decide) (fun c_64 => ?_) (fun c_64 => ?_)
      · refine aw_iinc (pc' := 73) eX6_odds_70 rfl rfl rfl (by decide) ?_
        dsimp only [zst, zst2, zcut]
        refine aw_goto eX6_odds_73 (by decide) (tgt := 40) ?_
        exact ih (12 - (p + 1)) (by omega) (p + 1) _ _ _ rfl (by omega) (nI_inc p) (by rw [sOdd, if_neg c_64, Int32.add_zero]) hF9 hF10 (hW4).dt (hs.tr hs5)
      · refine aw_iinc (pc' := 70) eX6_odds_67 rfl rfl rfl (by decide) ?_
        dsimp only [zst, zst2, zcut]
        refine aw_iinc (pc' := 73) eX6_odds_70 rfl rfl rfl (by decide) ?_
        dsimp only [zst, zst2, zcut]
        refine aw_goto eX6_odds_73 (by decide) (tgt := 40) ?_
        exact ih (12 - (p + 1)) (by omega) (p + 1) _ _ _ rfl (by omega) (nI_inc p) (by rw [sOdd, if_pos c_64]; rfl) hF9 hF10 (hW4).dt (hs.tr hs5)
theorem c_X6_odds (hO : OA h 16 (.inr (6, afs bi se))) (hN : WF F h 17 g (nI 9999)) (hT : DT h 27 (nI 2147483647)) (hg : gOk g m t) (hA : gAge g m t) (ht9 : t ≤ 20000) (tl n w : Int32) (hd : 9 ≤ d) : Ct l G mX6_odds yX6_odds d 0 0 [.ref 16, .int tl, .int n, .int w] h (fun r h' => r = some (.long (sOdds F g m t tl n w)) ∧ DT h' 27 (nI 2147483647) ∧ Same 27 10 h h') := by
  refine ct_of (lv := [some (.ref 16), some (.int tl), some (.int n), some (.int w), none, none]) (by decide +kernel) rfl (fun z => by cases z) (fun _ => rfl) (fun _ => Nat.le_of_ble_eq_true rfl) ?_
  have hgg := hg
  obtain ⟨hm, hm6, ht, ht2, hgq⟩ := hgg
  refine aw_aload_n (pc' := 1) eX6_odds_0 rfl rfl trivial ?_
  refine aw_Oget (pc' := 4) (ci := 6) (kf := 0) (N := 14) (.ref 17) hO eX6_odds_1 rfl rfl rfl inX6 (by decide) q250 rfl ?_
  refine aw_iload_n (pc' := 5) eX6_odds_4 rfl rfl ?_
  refine aw_callv (pc' := 8) (nn := 1) (c_X5_has (d := d - 1) hN hm hm6 _ (by omega)) eX6_odds_5 rfl ⟨q305, q308, q56⟩ q306 q307 ⟨rfl, by decide +kernel, by decide +kernel, by decide +kernel⟩ rfl hN.ob rfl ⟨by omega, by decide⟩ ⟨by omega, by omega⟩ rfl (Nat.le_of_ble_eq_true rfl) (fun v1 h2 hq3 => ?_)
  obtain ⟨rfl, rfl⟩ := hq3
  dsimp only [Option.toList, List.cons_append, List.nil_append]
  refine aw_if_eq (pc' := 11) (tgt := 30) eX6_odds_8 rfl (by decide) (fun c_8 => ?_) (fun c_8 => ?_)
  · refine aw_ldc2 (pc' := 33) eX6_odds_30 rfl q658 ?_
    refine aw_ret (v := some (.long _)) eX6_odds_33 ⟨rfl, rfl⟩ (by omega) (by omega) rfl ?_
    rw [sOdds, if_neg (fun z => by rw [(zb_eq0.mp c_8)] at z; exact absurd z.1 (by decide))]
    exact ⟨rfl, hT, Same.rf⟩
  · have hb9 := zb_ne0.mp c_8
    obtain ⟨b, hb, rfl⟩ := (bIn_one hm6).mp hb9
    have clb : (nI b).toNatClampNeg = b := nI_clamp (by omega)
    refine aw_iload_n (pc' := 12) eX6_odds_11 rfl rfl ?_
    refine aw_if_lt (pc' := 15) (tgt := 30) eX6_odds_12 rfl (by decide) (fun c_12 => ?_) (fun c_12 => ?_)
    · refine aw_ldc2 (pc' := 33) eX6_odds_30 rfl q658 ?_
      refine aw_ret (v := some (.long _)) eX6_odds_33 ⟨rfl, rfl⟩ (by omega) (by omega) rfl ?_
      rw [sOdds, if_neg (fun z => by rw [(bI_f1 c_12)] at z; exact absurd z.2.1 (by decide))]
      exact ⟨rfl, hT, Same.rf⟩
    · refine aw_iload_n (pc' := 16) eX6_odds_15 rfl rfl ?_
      refine aw_bipush (pc' := 18) (v := 20) eX6_odds_16 rfl (by decide) ?_
      refine aw_icmp_gt (pc' := 21) (tgt := 30) eX6_odds_18 rfl (by decide) (fun c_18 => ?_) (fun c_18 => ?_)
      · refine aw_ldc2 (pc' := 33) eX6_odds_30 rfl q658 ?_
        refine aw_ret (v := some (.long _)) eX6_odds_33 ⟨rfl, rfl⟩ (by omega) (by omega) rfl ?_
        rw [sOdds, if_neg (fun z => by rw [(bI_fgt c_18)] at z; exact absurd z.2.1 (by decide))]
        exact ⟨rfl, hT, Same.rf⟩
      · refine aw_iload_n (pc' := 22) eX6_odds_21 rfl rfl ?_
        refine aw_if_lt (pc' := 25) (tgt := 30) eX6_odds_22 rfl (by decide) (fun c_22 => ?_) (fun c_22 => ?_)
        · refine aw_ldc2 (pc' := 33) eX6_odds_30 rfl q658 ?_
          refine aw_ret (v := some (.long _)) eX6_odds_33 ⟨rfl, rfl⟩ (by omega) (by omega) rfl ?_
          rw [sOdds, if_neg (fun z => by rw [(bI_f1 c_22)] at z; exact absurd z.2.2 (by decide))]
          exact ⟨rfl, hT, Same.rf⟩
        · refine aw_iload_n (pc' := 26) eX6_odds_25 rfl rfl ?_
          refine aw_iconst (pc' := 27) (v := 1) eX6_odds_26 rfl (by decide) ?_
          refine aw_icmp_le (pc' := 30) (tgt := 34) eX6_odds_27 rfl (by decide) (fun c_27 => ?_) (fun c_27 => ?_)
          · have hn9 := bI_tgt c_12 c_18
            obtain ⟨x, hx20, rfl⟩ := (bIn_lit (N := 20) (by omega)).mp (show bIn n 0 (nI 20) = true from hn9)
            have clx : (nI x).toNatClampNeg = x := nI_clamp (by omega)
            refine aw_iconst (pc' := 35) (v := 0) eX6_odds_34 rfl (by decide) ?_
            refine aw_istore (pc' := 37) eX6_odds_35 rfl (by decide) ?_
            dsimp only [zst, zst2, zcut]
            refine aw_iconst (pc' := 38) (v := 0) eX6_odds_37 rfl (by decide) ?_
            refine aw_istore (pc' := 40) eX6_odds_38 rfl (by decide) ?_
            dsimp only [zst, zst2, zcut]
            refine lp_X6_odds hg hA ht9 (b := b) (by omega) hx20 (by omega) (fun h' x y => ⟨?_, x, y⟩) 12 0 _ _ _ (by omega) (by omega) rfl rfl hO hN hT Same.rf
            rw [sOdds, if_pos ⟨hb9, hn9, bI_tle c_22 c_27⟩, clb, clx]
          · refine aw_ldc2 (pc' := 33) eX6_odds_30 rfl q658 ?_
            refine aw_ret (v := some (.long _)) eX6_odds_33 ⟨rfl, rfl⟩ (by omega) (by omega) rfl ?_
            rw [sOdds, if_neg (fun z => by rw [(bI_fle c_27)] at z; exact absurd z.2.2 (by decide))]
            exact ⟨rfl, hT, Same.rf⟩
abbrev mX6_mean : MT := (RX6, cX6_mean, 3, (some .long), false)
theorem eX6_mean_0 : decode mX6_mean.2.1 0 = .ok (.aload_n 0, 1) := by decide +kernel
theorem eX6_mean_1 : decode mX6_mean.2.1 1 = .ok (.getfield 16, 3) := by decide +kernel
theorem eX6_mean_4 : decode mX6_mean.2.1 4 = .ok (.invokevirtual 129, 3) := by decide +kernel
theorem eX6_mean_7 : decode mX6_mean.2.1 7 = .ok (.invokestatic 133, 3) := by decide +kernel
theorem eX6_mean_10 : decode mX6_mean.2.1 10 = .ok (.istore_n 2, 1) := by decide +kernel
theorem eX6_mean_11 : decode mX6_mean.2.1 11 = .ok (.iload_n 1, 1) := by decide +kernel
theorem eX6_mean_12 : decode mX6_mean.2.1 12 = .ok (.ifCond .lt 12, 3) := by decide +kernel
theorem eX6_mean_15 : decode mX6_mean.2.1 15 = .ok (.iload_n 1, 1) := by decide +kernel
theorem eX6_mean_16 : decode mX6_mean.2.1 16 = .ok (.iconst 1, 1) := by decide +kernel
theorem eX6_mean_17 : decode mX6_mean.2.1 17 = .ok (.if_icmp .gt 7, 3) := by decide +kernel
theorem eX6_mean_20 : decode mX6_mean.2.1 20 = .ok (.iload_n 2, 1) := by decide +kernel
theorem eX6_mean_21 : decode mX6_mean.2.1 21 = .ok (.ifCond .ne 7, 3) := by decide +kernel
theorem eX6_mean_24 : decode mX6_mean.2.1 24 = .ok (.ldc2_w 195, 3) := by decide +kernel
theorem eX6_mean_27 : decode mX6_mean.2.1 27 = .ok (.lreturn, 1) := by decide +kernel
theorem eX6_mean_28 : decode mX6_mean.2.1 28 = .ok (.aload_n 0, 1) := by decide +kernel
theorem eX6_mean_29 : decode mX6_mean.2.1 29 = .ok (.getfield 16, 3) := by decide +kernel
theorem eX6_mean_32 : decode mX6_mean.2.1 32 = .ok (.invokevirtual 176, 3) := by decide +kernel
theorem eX6_mean_35 : decode mX6_mean.2.1 35 = .ok (.iload_n 2, 1) := by decide +kernel
theorem eX6_mean_36 : decode mX6_mean.2.1 36 = .ok (.iload_n 1, 1) := by decide +kernel
theorem eX6_mean_37 : decode mX6_mean.2.1 37 = .ok (.invokestatic 197, 3) := by decide +kernel
theorem eX6_mean_40 : decode mX6_mean.2.1 40 = .ok (.lreturn, 1) := by decide +kernel
theorem c_X6_mean (hO : OA h 16 (.inr (6, afs bi se))) (hN : WF F h 17 g (nI 9999)) (hg : gOk g m t) (w : Int32) (hd : 5 ≤ d) : Ct l G mX6_mean yX6_mean d 0 0 [.ref 16, .int w] h (fun r h' => r = some (.long (sMean F g m t w)) ∧ WF F h' 17 g (nI 9999) ∧ Same 17 10 h h') := by
  refine ct_of (lv := [some (.ref 16), some (.int w), none]) (by decide +kernel) rfl (fun z => by cases z) (fun _ => rfl) (fun _ => Nat.le_of_ble_eq_true rfl) ?_
  have hgg := hg
  obtain ⟨hm, hm6, ht, ht2, hgq⟩ := hgg
  obtain ⟨c, hc, ec⟩ := sCnt_nat (g := g) (s := 1) m
  refine aw_aload_n (pc' := 1) eX6_mean_0 rfl rfl trivial ?_
  refine aw_Oget (pc' := 4) (ci := 6) (kf := 0) (N := 14) (.ref 17) hO eX6_mean_1 rfl rfl rfl inX6 (by decide) q250 rfl ?_
  refine aw_callv (pc' := 7) (nn := 0) (c_X5_withinBits (d := d - 1) hN hm hm6 (by omega)) eX6_mean_4 rfl ⟨q375, q378, q56⟩ q376 q377 ⟨rfl, by decide +kernel, by decide +kernel, by decide +kernel⟩ rfl hN.ob rfl ⟨by omega, by decide⟩ ⟨by omega, by omega⟩ rfl (Nat.le_of_ble_eq_true rfl) (fun v1 h2 hq3 => ?_)
  obtain ⟨rfl, rfl⟩ := hq3
  dsimp only [Option.toList, List.cons_append, List.nil_append]
  refine aw_calls (pc' := 10) (nn := 1) (c_J6_bitCount_0f7a4 (d := d - 1) _ (by omega)) eX6_mean_7 rfl ⟨q379, q381, q66⟩ q380 ⟨by decide +kernel, by decide +kernel, by decide +kernel⟩ rfl ⟨by omega, by decide⟩ ⟨by omega, by omega⟩ rfl (Nat.le_of_ble_eq_true rfl) (fun v4 h5 hq6 => ?_)
  obtain ⟨rfl, rfl⟩ := hq6
  rw [bc_which hm6, ec]
  dsimp only [Option.toList, List.cons_append, List.nil_append]
  refine aw_istore_n (pc' := 11) eX6_mean_10 rfl (by decide) ?_
  dsimp only [zst, zst2, zcut]
  refine aw_iload_n (pc' := 12) eX6_mean_11 rfl rfl ?_
  refine aw_if_lt (pc' := 15) (tgt := 24) eX6_mean_12 rfl (by decide) (fun c_12 => ?_) (fun c_12 => ?_)
  · refine aw_ldc2 (pc' := 27) eX6_mean_24 rfl q658 ?_
    refine aw_ret (v := some (.long _)) eX6_mean_27 ⟨rfl, rfl⟩ (by omega) (by omega) rfl ?_
    rw [sMean, if_neg (fun z => by rw [(bI_f1 c_12)] at z; exact absurd z.1 (by decide))]
    exact ⟨rfl, hN, Same.rf⟩
  · refine aw_iload_n (pc' := 16) eX6_mean_15 rfl rfl ?_
    refine aw_iconst (pc' := 17) (v := 1) eX6_mean_16 rfl (by decide) ?_
    refine aw_icmp_gt (pc' := 20) (tgt := 24) eX6_mean_17 rfl (by decide) (fun c_17 => ?_) (fun c_17 => ?_)
    · refine aw_ldc2 (pc' := 27) eX6_mean_24 rfl q658 ?_
      refine aw_ret (v := some (.long _)) eX6_mean_27 ⟨rfl, rfl⟩ (by omega) (by omega) rfl ?_
      rw [sMean, if_neg (fun z => by rw [(bI_fgt c_17)] at z; exact absurd z.1 (by decide))]
      exact ⟨rfl, hN, Same.rf⟩
    · refine aw_iload_n (pc' := 21) eX6_mean_20 rfl rfl ?_
      refine aw_if_ne (pc' := 24) (tgt := 28) eX6_mean_21 rfl (by decide) (fun c_21 => ?_) (fun c_21 => ?_)
      · have c1 : 0 < c := by rcases Nat.eq_zero_or_pos c with z | z; exact absurd (by rw [z]; rfl) c_21; exact z
        refine aw_aload_n (pc' := 29) eX6_mean_28 rfl rfl trivial ?_
        refine aw_Oget (pc' := 32) (ci := 6) (kf := 0) (N := 14) (.ref 17) hO eX6_mean_29 rfl rfl rfl inX6 (by decide) q250 rfl ?_
        refine aw_callv (pc' := 35) (nn := 0) (c_X5_withinLoads (d := d - 1) hN hg (by omega)) eX6_mean_32 rfl ⟨q596, q599, q56⟩ q597 q598 ⟨rfl, by decide +kernel, by decide +kernel, by decide +kernel⟩ rfl hN.ob rfl ⟨by omega, by decide⟩ ⟨by omega, by omega⟩ rfl (Nat.le_of_ble_eq_true rfl) (fun v9 h10 hq11 => ?_)
        obtain ⟨rfl, hW7, hs8⟩ := hq11
        have hF12 := hO.fr hs8 (by omega)
        dsimp only [Option.toList, List.cons_append, List.nil_append]
        refine aw_iload_n (pc' := 36) eX6_mean_35 rfl rfl ?_
        refine aw_iload_n (pc' := 37) eX6_mean_36 rfl rfl ?_
        refine aw_calls (pc' := 40) (nn := 3) (c_X6_inLowestTerms (d := d - 1) _ (b := c) (by omega) (by omega) _ (by omega)) eX6_mean_37 rfl ⟨q659, q661, q55⟩ q660 ⟨by decide +kernel, by decide +kernel, by decide +kernel⟩ rfl ⟨by omega, by decide⟩ ⟨by omega, by omega⟩ rfl (Nat.le_of_ble_eq_true rfl) (fun v13 h14 hq15 => ?_)
        obtain ⟨rfl, rfl⟩ := hq15
        dsimp only [Option.toList, List.cons_append, List.nil_append]
        refine aw_ret (v := some (.long _)) eX6_mean_40 ⟨rfl, rfl⟩ (by omega) (by omega) rfl ?_
        rw [sMean, if_pos ⟨(bI_tgt c_12 c_17), by rw [ec]; exact (nI_ltI (a := 0) (by omega) (by omega)).mpr c1⟩, ec, nI_clamp (by omega)]
        exact ⟨rfl, hW7, hs8⟩
      · refine aw_ldc2 (pc' := 27) eX6_mean_24 rfl q658 ?_
        refine aw_ret (v := some (.long _)) eX6_mean_27 ⟨rfl, rfl⟩ (by omega) (by omega) rfl ?_
        rw [sMean, if_neg (fun z => by rw [ec, show nI c = 0 from c_21] at z; exact absurd z.2 (by decide))]
        exact ⟨rfl, hN, Same.rf⟩
def PlR (f g : Nat → Int32) (a : Nat) : Prop := ∀ r, r < a → f (3 * r) = g (86 + 2 * r) ∧ f (3 * r + 1) = g (87 + 2 * r)
def gP2 (g : Nat → Int32) (m a : Nat) : Prop := g 85 = nI a ∧ a ≤ 10 ∧ ∀ r, r < a → g (86 + 2 * r) = 0 ∨ ((g (86 + 2 * r) = 1 ∨ g (86 + 2 * r) = 2) ∧ ∃ b, b < m ∧ g (87 + 2 * r) = nI b) ∨ g (86 + 2 * r) = 3
theorem gAge.pl1 {w x : Int32} (hA : gAge g m t) (hm6 : m ≤ 6) (hw : w = 0 ∨ ((w = 1 ∨ w = 2) ∧ ∃ b, b < m ∧ x = nI b) ∨ w = 3) : gAge (sPl1 F m t g w x).1 m (sPl1 F m t g w x).2 := by
  unfold sPl1
  by_cases c0 : w = 0
  · rw [if_pos c0]; exact hA.day hm6
  · rw [if_neg c0]
    by_cases c1 : w = 1
    · rw [if_pos c1]; exact hA.says
    · rw [if_neg c1]
      by_cases c2 : w = 2
      · rw [if_pos c2]
        obtain ⟨b, hb, e⟩ := ((hw.resolve_left c0).resolve_right (fun z => by rw [z] at c2; exact absurd c2 (by decide))).2
        rw [e, nI_clamp (by omega)]
        intro j hj
        by_cases z : j = b
        · subst z; exact ⟨0, by omega, upd_eq _ _ _⟩
        · show ∃ a, a ≤ t ∧ upd (upd g (10 * b + 3) 0) (10 * b + 4) 0 (10 * j + 4) = nI a
          rw [upd_ne (by omega), upd_ne (by omega)]; exact hA j hj
      · rw [if_neg c2]
        exact hA.of fun j hj => upd_ne (by omega)
abbrev mX6_ends : MT := (RX6, cX6_ends, 3, (some .int), false)
theorem eX6_ends_0 : decode mX6_ends.2.1 0 = .ok (.iload_n 1, 1) := by decide +kernel
theorem eX6_ends_1 : decode mX6_ends.2.1 1 = .ok (.ifCond .lt 8, 3) := by decide +kernel
theorem eX6_ends_4 : decode mX6_ends.2.1 4 = .ok (.iload_n 1, 1) := by decide +kernel
theorem eX6_ends_5 : decode mX6_ends.2.1 5 = .ok (.iconst 1, 1) := by decide +kernel
theorem eX6_ends_6 : decode mX6_ends.2.1 6 = .ok (.if_icmp .le 5, 3) := by decide +kernel
theorem eX6_ends_9 : decode mX6_ends.2.1 9 = .ok (.iconst (-1), 1) := by decide +kernel
theorem eX6_ends_10 : decode mX6_ends.2.1 10 = .ok (.ireturn, 1) := by decide +kernel
theorem eX6_ends_11 : decode mX6_ends.2.1 11 = .ok (.aload_n 0, 1) := by decide +kernel
theorem eX6_ends_12 : decode mX6_ends.2.1 12 = .ok (.getfield 21, 3) := by decide +kernel
theorem eX6_ends_15 : decode mX6_ends.2.1 15 = .ok (.aload_n 0, 1) := by decide +kernel
theorem eX6_ends_16 : decode mX6_ends.2.1 16 = .ok (.getfield 16, 3) := by decide +kernel
theorem eX6_ends_19 : decode mX6_ends.2.1 19 = .ok (.invokevirtual 118, 3) := by decide +kernel
theorem eX6_ends_22 : decode mX6_ends.2.1 22 = .ok (.iconst 0, 1) := by decide +kernel
theorem eX6_ends_23 : decode mX6_ends.2.1 23 = .ok (.istore_n 2, 1) := by decide +kernel
theorem eX6_ends_24 : decode mX6_ends.2.1 24 = .ok (.iload_n 2, 1) := by decide +kernel
theorem eX6_ends_25 : decode mX6_ends.2.1 25 = .ok (.aload_n 0, 1) := by decide +kernel
theorem eX6_ends_26 : decode mX6_ends.2.1 26 = .ok (.getfield 38, 3) := by decide +kernel
theorem eX6_ends_29 : decode mX6_ends.2.1 29 = .ok (.getfield 201, 3) := by decide +kernel
theorem eX6_ends_32 : decode mX6_ends.2.1 32 = .ok (.if_icmp .ge 31, 3) := by decide +kernel
theorem eX6_ends_35 : decode mX6_ends.2.1 35 = .ok (.aload_n 0, 1) := by decide +kernel
theorem eX6_ends_36 : decode mX6_ends.2.1 36 = .ok (.aload_n 0, 1) := by decide +kernel
theorem eX6_ends_37 : decode mX6_ends.2.1 37 = .ok (.getfield 38, 3) := by decide +kernel
theorem eX6_ends_40 : decode mX6_ends.2.1 40 = .ok (.iload_n 2, 1) := by decide +kernel
theorem eX6_ends_41 : decode mX6_ends.2.1 41 = .ok (.iconst 0, 1) := by decide +kernel
theorem eX6_ends_42 : decode mX6_ends.2.1 42 = .ok (.invokevirtual 204, 3) := by decide +kernel
theorem eX6_ends_45 : decode mX6_ends.2.1 45 = .ok (.aload_n 0, 1) := by decide +kernel
theorem eX6_ends_46 : decode mX6_ends.2.1 46 = .ok (.getfield 38, 3) := by decide +kernel
theorem eX6_ends_49 : decode mX6_ends.2.1 49 = .ok (.iload_n 2, 1) := by decide +kernel
theorem eX6_ends_50 : decode mX6_ends.2.1 50 = .ok (.iconst 1, 1) := by decide +kernel
theorem eX6_ends_51 : decode mX6_ends.2.1 51 = .ok (.invokevirtual 204, 3) := by decide +kernel
theorem eX6_ends_54 : decode mX6_ends.2.1 54 = .ok (.invokevirtual 207, 3) := by decide +kernel
theorem eX6_ends_57 : decode mX6_ends.2.1 57 = .ok (.iinc 2 1, 3) := by decide +kernel
theorem eX6_ends_60 : decode mX6_ends.2.1 60 = .ok (.goto (-36), 3) := by decide +kernel
theorem eX6_ends_63 : decode mX6_ends.2.1 63 = .ok (.iload_n 1, 1) := by decide +kernel
theorem eX6_ends_64 : decode mX6_ends.2.1 64 = .ok (.ifCond .ne 13, 3) := by decide +kernel
theorem eX6_ends_67 : decode mX6_ends.2.1 67 = .ok (.aload_n 0, 1) := by decide +kernel
theorem eX6_ends_68 : decode mX6_ends.2.1 68 = .ok (.getfield 21, 3) := by decide +kernel
theorem eX6_ends_71 : decode mX6_ends.2.1 71 = .ok (.invokevirtual 173, 3) := by decide +kernel
theorem eX6_ends_74 : decode mX6_ends.2.1 74 = .ok (.goto 10, 3) := by decide +kernel
theorem eX6_ends_77 : decode mX6_ends.2.1 77 = .ok (.aload_n 0, 1) := by decide +kernel
theorem eX6_ends_78 : decode mX6_ends.2.1 78 = .ok (.getfield 21, 3) := by decide +kernel
theorem eX6_ends_81 : decode mX6_ends.2.1 81 = .ok (.invokevirtual 129, 3) := by decide +kernel
theorem eX6_ends_84 : decode mX6_ends.2.1 84 = .ok (.ireturn, 1) := by decide +kernel
theorem gP2.of {g g' : Nat → Int32} (hP : gP2 g m a) (e : ∀ j, 85 ≤ j → g' j = g j) : gP2 g' m a := by
  obtain ⟨h1, h2, h3⟩ := hP
  refine ⟨(e 85 (by omega)).trans h1, h2, fun r hr => ?_⟩
  rw [e _ (by omega), e _ (by omega)]
  exact h3 r hr
theorem lp_X6_ends (ha10 : a ≤ 10) {w : Int32} (hd : 6 ≤ d) {h0 : Hp} : ∀ (j q t : Nat) (y : Int32) (g : Nat → Int32) (h : Hp), j = a - q → q ≤ a → y = nI q → gOk g m t → gAge g m t → t + (a - q) ≤ 20000 → PlR f g a → gP2 g m a → OA h 16 (.inr (6, afs bi se)) → WF F h 27 g (nI 2147483647) → RAt h 49 10 a f → Same 27 10 h0 h → (∀ h', WF F h' 27 (sPl F m (a - q) q t g) (nI 2147483647) → (sPl F m (a - q) q t g) 60 = nI m → OA h' 16 (.inr (6, afs bi se)) → Same 27 10 h0 h' → AW l G mX6_ends d 0 0 Q 0 0 h' [some (.ref 16), some (.int w), some (.int (nI a))] [] 63) → AW l G mX6_ends d 0 0 Q 0 0 h [some (.ref 16), some (.int w), some (.int y)] [] 24 := by
  intro j
  induction j using Nat.strongRecOn with
  | _ j ih =>
    intro q t y g h hj hq hy hg hA htk hPl hgP hO hT hP hs hQ
    subst hy
    refine aw_iload_n (pc' := 25) eX6_ends_24 rfl rfl ?_
    refine aw_aload_n (pc' := 26) eX6_ends_25 rfl rfl trivial ?_
    refine aw_Oget (pc' := 29) (ci := 6) (kf := 5) (N := 14) (.ref 49) hO eX6_ends_26 rfl rfl rfl inX6 (by decide) q255 rfl ?_
    refine aw_OgetN (pc' := 32) (ci := 1) (kf := 2) (N := 3) (.int (nI a)) (hP).1 eX6_ends_29 rfl rfl rfl inX1 (by decide) rfl (by decide) rfl ?_
    refine aw_icmp_ge (pc' := 35) (tgt := 63) eX6_ends_32 rfl (by decide) (fun c_32 => ?_) (fun c_32 => ?_)
    · have c9 := ge_nI (by omega) (by omega) c_32
      obtain rfl : q = a := by omega
      rw [Nat.sub_self] at hQ
      exact hQ _ hT hg.1 hO hs
    · have c9 := nge_nI (by omega) (by omega) c_32
      have hpl := hPl q c9
      have hw9 := hgP.2.2 q c9
      refine aw_aload_n (pc' := 36) eX6_ends_35 rfl rfl trivial ?_
      refine aw_aload_n (pc' := 37) eX6_ends_36 rfl rfl trivial ?_
      refine aw_Oget (pc' := 40) (ci := 6) (kf := 5) (N := 14) (.ref 49) hO eX6_ends_37 rfl rfl rfl inX6 (by decide) q255 rfl ?_
      refine aw_iload_n (pc' := 41) eX6_ends_40 rfl rfl ?_
      refine aw_iconst (pc' := 42) (v := 0) eX6_ends_41 rfl (by decide) ?_
      refine aw_callv (pc' := 45) (nn := 2) (c_X1_cell (d := d - 1) hP (r := q) (c := 0) (by omega) (by omega) (by omega)) eX6_ends_42 rfl ⟨q641, q644, q58⟩ q642 q643 ⟨rfl, by decide +kernel, by decide +kernel, by decide +kernel⟩ rfl hP.ob rfl ⟨by omega, by decide⟩ ⟨by omega, by omega⟩ rfl (Nat.le_of_ble_eq_true rfl) (fun v1 h2 hq3 => ?_)
      obtain ⟨rfl, rfl⟩ := hq3
      rw [show f (3 * q + 0) = g (86 + 2 * q) from hpl.1]
      dsimp only [Option.toList, List.cons_append, List.nil_append]
      refine aw_aload_n (pc' := 46) eX6_ends_45 rfl rfl trivial ?_
      refine aw_Oget (pc' := 49) (ci := 6) (kf := 5) (N := 14) (.ref 49) hO eX6_ends_46 rfl rfl rfl inX6 (by decide) q255 rfl ?_
      refine aw_iload_n (pc' := 50) eX6_ends_49 rfl rfl ?_
      refine aw_iconst (pc' := 51) (v := 1) eX6_ends_50 rfl (by decide) ?_
      refine aw_callv (pc' := 54) (nn := 2) (c_X1_cell (d := d - 1) hP (r := q) (c := 1) (by omega) (by omega) (by omega)) eX6_ends_51 rfl ⟨q641, q644, q58⟩ q642 q643 ⟨rfl, by decide +kernel, by decide +kernel, by decide +kernel⟩ rfl hP.ob rfl ⟨by omega, by decide⟩ ⟨by omega, by omega⟩ rfl (Nat.le_of_ble_eq_true rfl) (fun v4 h5 hq6 => ?_)
      obtain ⟨rfl, rfl⟩ := hq6
      rw [hpl.2]
      dsimp only [Option.toList, List.cons_append, List.nil_append]
      refine aw_callv (pc' := 57) (nn := 2) (c_X6_trialDoes (d := d - 1) hO hT hg hA (by omega) hw9 (by omega)) eX6_ends_54 rfl ⟨q674, q677, q55⟩ q676 q18 ⟨rfl, by decide +kernel, by decide +kernel, by decide +kernel⟩ rfl (by rw [hO.1]; exact ⟨rfl, rfl⟩) rfl ⟨by omega, by decide⟩ ⟨by omega, by omega⟩ rfl (Nat.le_of_ble_eq_true rfl) (fun v9 h10 hq11 => ?_)
      obtain ⟨rfl, hW7, hs8⟩ := hq11
      have hF12 := hO.fr hs8 (by omega)
      have hF13 := hP.fr hs8 (by omega)
      dsimp only [Option.toList, List.cons_append, List.nil_append]
      refine aw_iinc (pc' := 60) eX6_ends_57 rfl rfl rfl (by decide) ?_
      dsimp only [zst, zst2, zcut]
      refine aw_goto eX6_ends_60 (by decide) (tgt := 24) ?_
      have ok := sPl1_ok (F := F) (w := g (86 + 2 * q)) (x := g (87 + 2 * q)) hg (by omega) (fun z => by
        rcases hw9 with w0 | ⟨-, b, hb, e⟩ | w3
        · rw [w0] at z; exact absurd z (by decide)
        · exact ⟨b, by have := hg.2.1; omega, e⟩
        · rw [w3] at z; exact absurd z (by decide))
      rw [show a - q = a - (q + 1) + 1 by omega, sPl] at hQ
      exact ih (a - (q + 1)) (by omega) (q + 1) _ _ _ _ rfl (by omega) (nI_inc q) ok.1 (hA.pl1 hg.2.1 hw9) (by have := ok.2.1; omega) (fun r hr => by rw [ok.2.2 _ (by omega), ok.2.2 _ (by omega)]; exact hPl r hr) (gP2.of hgP ok.2.2) hF12 hW7 hF13 (hs.tr hs8) hQ
theorem c_X6_ends (hO : OA h 16 (.inr (6, afs bi se))) (hN : WF F h 17 g (nI 9999)) (hT : DT h 27 (nI 2147483647)) (hg : gOk g m t) (hA : gAge g m t) (ht9 : t ≤ 19000) (hP : RAt h 49 10 a f) (hPl : PlR f g a) (hgP : gP2 g m a) (w : Int32) (hd : 7 ≤ d) : Ct l G mX6_ends yX6_ends d 0 0 [.ref 16, .int w] h (fun r h' => r = some (.int (sEnds F g m a t w)) ∧ DT h' 27 (nI 2147483647) ∧ Same 27 10 h h') := by
  refine ct_of (lv := [some (.ref 16), some (.int w), none]) (by decide +kernel) rfl (fun z => by cases z) (fun _ => rfl) (fun _ => Nat.le_of_ble_eq_true rfl) ?_
  have hgg := hg
  obtain ⟨hm, hm6, ht, ht2, hgq⟩ := hgg
  refine aw_iload_n (pc' := 1) eX6_ends_0 rfl rfl ?_
  refine aw_if_lt (pc' := 4) (tgt := 9) eX6_ends_1 rfl (by decide) (fun c_1 => ?_) (fun c_1 => ?_)
  · refine aw_iconst (pc' := 10) (v := -1) eX6_ends_9 rfl (by decide) ?_
    refine aw_ret (v := some (.int _)) eX6_ends_10 ⟨rfl, rfl⟩ (by omega) (by omega) rfl ?_
    rw [sEnds, if_neg (by rw [(bI_f1 c_1)]; decide)]
    exact ⟨rfl, hT, Same.rf⟩
  · refine aw_iload_n (pc' := 5) eX6_ends_4 rfl rfl ?_
    refine aw_iconst (pc' := 6) (v := 1) eX6_ends_5 rfl (by decide) ?_
    refine aw_icmp_le (pc' := 9) (tgt := 11) eX6_ends_6 rfl (by decide) (fun c_6 => ?_) (fun c_6 => ?_)
    · have hw1 := bI_tle c_1 c_6
      refine aw_aload_n (pc' := 12) eX6_ends_11 rfl rfl trivial ?_
      refine aw_Oget (pc' := 15) (ci := 6) (kf := 1) (N := 14) (.ref 27) hO eX6_ends_12 rfl rfl rfl inX6 (by decide) q251 rfl ?_
      refine aw_aload_n (pc' := 16) eX6_ends_15 rfl rfl trivial ?_
      refine aw_Oget (pc' := 19) (ci := 6) (kf := 0) (N := 14) (.ref 17) hO eX6_ends_16 rfl rfl rfl inX6 (by decide) q250 rfl ?_
      refine aw_callv (pc' := 22) (nn := 1) (c_X5_becomes (d := d - 1) hN hT (by omega) (by omega) (by omega)) eX6_ends_19 rfl ⟨q332, q335, q56⟩ q333 q334 ⟨rfl, by decide +kernel, by decide +kernel, by decide +kernel⟩ rfl hT.ob rfl ⟨by omega, by decide⟩ ⟨by omega, by omega⟩ rfl (Nat.le_of_ble_eq_true rfl) (fun v3 h4 hq5 => ?_)
      obtain ⟨rfl, hW1, hs2⟩ := hq5
      have hF6 := hO.fr hs2 (by omega)
      have hF7 := hN.fr hs2 (by omega)
      have hF8 := hP.fr hs2 (by omega)
      dsimp only [Option.toList, List.cons_append, List.nil_append]
      refine aw_iconst (pc' := 23) (v := 0) eX6_ends_22 rfl (by decide) ?_
      refine aw_istore_n (pc' := 24) eX6_ends_23 rfl (by decide) ?_
      dsimp only [zst, zst2, zcut]
      refine lp_X6_ends hgP.2.1 (by omega) (a - 0) 0 t _ g _ rfl (by omega) rfl hg hA (by have := hgP.2.1; omega) hPl hgP hF6 hW1 hF8 hs2 (fun h9 hT9 h60 hO9 hs9 => ?_)
      rw [Nat.sub_zero] at hT9 h60
      refine aw_iload_n (pc' := 64) eX6_ends_63 rfl rfl ?_
      refine aw_if_ne (pc' := 67) (tgt := 77) eX6_ends_64 rfl (by decide) (fun c_64 => ?_) (fun c_64 => ?_)
      · refine aw_aload_n (pc' := 78) eX6_ends_77 rfl rfl trivial ?_
        refine aw_Oget (pc' := 81) (ci := 6) (kf := 1) (N := 14) (.ref 27) hO9 eX6_ends_78 rfl rfl rfl inX6 (by decide) q251 rfl ?_
        refine aw_callv (pc' := 84) (nn := 0) (c_X5_withinBits (d := d - 1) hT9 (m := m) h60 hm6 (by omega)) eX6_ends_81 rfl ⟨q375, q378, q56⟩ q376 q377 ⟨rfl, by decide +kernel, by decide +kernel, by decide +kernel⟩ rfl hT9.ob rfl ⟨by omega, by decide⟩ ⟨by omega, by omega⟩ rfl (Nat.le_of_ble_eq_true rfl) (fun v1 h2 hq3 => ?_)
        obtain ⟨rfl, rfl⟩ := hq3
        dsimp only [Option.toList, List.cons_append, List.nil_append]
        refine aw_ret (v := some (.int _)) eX6_ends_84 ⟨rfl, rfl⟩ (by omega) (by omega) rfl ?_
        rw [sEnds, if_pos hw1, if_neg c_64]
        exact ⟨rfl, hT9.dt, hs9⟩
      · refine aw_aload_n (pc' := 68) eX6_ends_67 rfl rfl trivial ?_
        refine aw_Oget (pc' := 71) (ci := 6) (kf := 1) (N := 14) (.ref 27) hO9 eX6_ends_68 rfl rfl rfl inX6 (by decide) q251 rfl ?_
        refine aw_callv (pc' := 74) (nn := 0) (c_X5_howManyFound (d := d - 1) hT9 (m := m) h60 hm6 (by omega)) eX6_ends_71 rfl ⟨q592, q595, q56⟩ q593 q594 ⟨rfl, by decide +kernel, by decide +kernel, by decide +kernel⟩ rfl hT9.ob rfl ⟨by omega, by decide⟩ ⟨by omega, by omega⟩ rfl (Nat.le_of_ble_eq_true rfl) (fun v4 h5 hq6 => ?_)
        obtain ⟨rfl, rfl⟩ := hq6
        dsimp only [Option.toList, List.cons_append, List.nil_append]
        refine aw_goto eX6_ends_74 (by decide) (tgt := 84) ?_
        refine aw_ret (v := some (.int _)) eX6_ends_84 ⟨rfl, rfl⟩ (by omega) (by omega) rfl ?_
        rw [sEnds, if_pos hw1, if_pos c_64]
        exact ⟨rfl, hT9.dt, hs9⟩
    · refine aw_iconst (pc' := 10) (v := -1) eX6_ends_9 rfl (by decide) ?_
      refine aw_ret (v := some (.int _)) eX6_ends_10 ⟨rfl, rfl⟩ (by omega) (by omega) rfl ?_
      rw [sEnds, if_neg (by rw [(bI_fle c_6)]; decide)]
      exact ⟨rfl, hT, Same.rf⟩
end C18
