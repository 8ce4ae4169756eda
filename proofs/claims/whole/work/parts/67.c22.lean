/-! the class AmberGrains: a sea is charted -/
section C22
variable {F : FT} {l : Launch} {G : GT} {d m t a : Nat} {g : Nat → Int32} {h : Hp} {Q : Option Value → Hp → Prop} {bi se : Int32}
theorem or_l {A : Prop} {X Y : Prop} (z : (¬ A ∧ X) ∨ (A ∧ Y)) (n : ¬ A) : X := z.elim (fun y => y.2) (fun y => absurd y.1 n)
theorem or_r {A : Prop} {X Y : Prop} (z : (¬ A ∧ X) ∨ (A ∧ Y)) (n : A) : Y := z.elim (fun y => absurd n y.1) (fun y => y.2)
theorem WAt.fx {h' : Hp} {w : Nat} {S : WT} (hW : WAt h w S) (e : ∀ x, w ≤ x → x < w + 10 → h'.2 x = h.2 x) : WAt h' w S := by
  obtain ⟨h1, h2, h3, h4⟩ := hW
  refine ⟨h1, (e w (by omega) (by omega)).trans h2, fun k hk1 hk9 => ?_, h4⟩
  obtain ⟨f, h5, h6⟩ := h3 k hk1 hk9
  exact ⟨f, (e (w + k) (by omega) (by omega)).trans h5, h6⟩

abbrev mX6_chart : MT := (RX6, cX6_chart, 2, (some .int), false)
theorem eX6_chart_0 : decode mX6_chart.2.1 0 = .ok (.aload_n 0, 1) := by decide +kernel
theorem eX6_chart_1 : decode mX6_chart.2.1 1 = .ok (.getfield 60, 3) := by decide +kernel
theorem eX6_chart_4 : decode mX6_chart.2.1 4 = .ok (.bipush 6, 2) := by decide +kernel
theorem eX6_chart_6 : decode mX6_chart.2.1 6 = .ok (.if_icmp .lt 6, 3) := by decide +kernel
theorem eX6_chart_9 : decode mX6_chart.2.1 9 = .ok (.bipush (-4), 2) := by decide +kernel
theorem eX6_chart_11 : decode mX6_chart.2.1 11 = .ok (.ireturn, 1) := by decide +kernel
theorem eX6_chart_12 : decode mX6_chart.2.1 12 = .ok (.aload_n 0, 1) := by decide +kernel
theorem eX6_chart_13 : decode mX6_chart.2.1 13 = .ok (.getfield 56, 3) := by decide +kernel
theorem eX6_chart_16 : decode mX6_chart.2.1 16 = .ok (.invokevirtual 156, 3) := by decide +kernel
theorem eX6_chart_19 : decode mX6_chart.2.1 19 = .ok (.astore_n 1, 1) := by decide +kernel
theorem eX6_chart_20 : decode mX6_chart.2.1 20 = .ok (.aload_n 1, 1) := by decide +kernel
theorem eX6_chart_21 : decode mX6_chart.2.1 21 = .ok (.ifnonnull 14, 3) := by decide +kernel
theorem eX6_chart_24 : decode mX6_chart.2.1 24 = .ok (.bipush (-10), 2) := by decide +kernel
theorem eX6_chart_26 : decode mX6_chart.2.1 26 = .ok (.aload_n 0, 1) := by decide +kernel
theorem eX6_chart_27 : decode mX6_chart.2.1 27 = .ok (.getfield 56, 3) := by decide +kernel
theorem eX6_chart_30 : decode mX6_chart.2.1 30 = .ok (.invokevirtual 160, 3) := by decide +kernel
theorem eX6_chart_33 : decode mX6_chart.2.1 33 = .ok (.isub, 1) := by decide +kernel
theorem eX6_chart_34 : decode mX6_chart.2.1 34 = .ok (.ireturn, 1) := by decide +kernel
theorem eX6_chart_35 : decode mX6_chart.2.1 35 = .ok (.aload_n 0, 1) := by decide +kernel
theorem eX6_chart_36 : decode mX6_chart.2.1 36 = .ok (.getfield 16, 3) := by decide +kernel
theorem eX6_chart_39 : decode mX6_chart.2.1 39 = .ok (.aload_n 1, 1) := by decide +kernel
theorem eX6_chart_40 : decode mX6_chart.2.1 40 = .ok (.putfield 163, 3) := by decide +kernel
theorem eX6_chart_43 : decode mX6_chart.2.1 43 = .ok (.aload_n 0, 1) := by decide +kernel
theorem eX6_chart_44 : decode mX6_chart.2.1 44 = .ok (.dup, 1) := by decide +kernel
theorem eX6_chart_45 : decode mX6_chart.2.1 45 = .ok (.getfield 60, 3) := by decide +kernel
theorem eX6_chart_48 : decode mX6_chart.2.1 48 = .ok (.iconst 1, 1) := by decide +kernel
theorem eX6_chart_49 : decode mX6_chart.2.1 49 = .ok (.iadd, 1) := by decide +kernel
theorem eX6_chart_50 : decode mX6_chart.2.1 50 = .ok (.putfield 60, 3) := by decide +kernel
theorem eX6_chart_53 : decode mX6_chart.2.1 53 = .ok (.aload_n 0, 1) := by decide +kernel
theorem eX6_chart_54 : decode mX6_chart.2.1 54 = .ok (.getfield 60, 3) := by decide +kernel
theorem eX6_chart_57 : decode mX6_chart.2.1 57 = .ok (.iconst 1, 1) := by decide +kernel
theorem eX6_chart_58 : decode mX6_chart.2.1 58 = .ok (.isub, 1) := by decide +kernel
theorem eX6_chart_59 : decode mX6_chart.2.1 59 = .ok (.ireturn, 1) := by decide +kernel
theorem f_X6_chart {c : Nat} (hO : OA h 16 (.inr (6, afs bi (nI c)))) (hc : c = 6) (hd : 0 ≤ d) : Ct l G mX6_chart yX6_chart d 2 102 [.ref 16] h (fun r h' => r = some (.int (-4)) ∧ h' = h) := by
  refine ct_of (lv := [some (.ref 16), none]) (by decide +kernel) rfl (fun z => by cases z) (fun _ => rfl) (fun _ => Nat.le_of_ble_eq_true rfl) ?_
  refine aw_aload_n (pc' := 1) eX6_chart_0 rfl rfl trivial ?_
  refine aw_Oget (pc' := 4) (ci := 6) (kf := 11) (N := 14) (.int (nI c)) hO eX6_chart_1 rfl rfl rfl inX6 (by decide) q261 rfl ?_
  refine aw_bipush (pc' := 6) (v := 6) eX6_chart_4 rfl (by decide) ?_
  refine aw_icmp_lt (pc' := 9) (tgt := 12) eX6_chart_6 rfl (by decide) (fun c_6 => ?_) (fun c_6 => ?_)
  · exact absurd ((nI_ltI (b := 6) (by omega) (by omega)).mp c_6) (by omega)
  · refine aw_bipush (pc' := 11) (v := -4) eX6_chart_9 rfl (by decide) ?_
    refine aw_ret (v := some (.int _)) eX6_chart_11 ⟨rfl, rfl⟩ (by omega) (by omega) rfl ?_
    exact ⟨rfl, rfl⟩
theorem n_X6_chart {n ra c : Nat} {R : Nat → Int32} {rb : Bool} {rs : List Int32} {rr : Int32} (hO : OA h 16 (.inr (6, afs bi (nI c)))) (hR : RdAt h 59 n R ra rb rs rr) (hn : n ≤ 100) (hA : RA R n) (hz : 96 ≤ h.1 + 16) (hc : c < 6) (hgd : ¬ pGood n (pRA R n mLe N0 mWo) = true) (hd : 21 ≤ d) : Ct l G mX6_chart yX6_chart d 2 102 [.ref 16] h (fun r h' => r = some (.int (-10 - nI (pRA R n mLe N0 mWo).1.1)) ∧ (∃ a' b' s' r', RdAt h' 59 0 R a' b' s' r') ∧ Same 59 3 h h') := by
  refine ct_of (lv := [some (.ref 16), none]) (by decide +kernel) rfl (fun z => by cases z) (fun _ => rfl) (fun _ => Nat.le_of_ble_eq_true rfl) ?_
  refine aw_aload_n (pc' := 1) eX6_chart_0 rfl rfl trivial ?_
  refine aw_Oget (pc' := 4) (ci := 6) (kf := 11) (N := 14) (.int (nI c)) hO eX6_chart_1 rfl rfl rfl inX6 (by decide) q261 rfl ?_
  refine aw_bipush (pc' := 6) (v := 6) eX6_chart_4 rfl (by decide) ?_
  refine aw_icmp_lt (pc' := 9) (tgt := 12) eX6_chart_6 rfl (by decide) (fun c_6 => ?_) (fun c_6 => ?_)
  · refine aw_aload_n (pc' := 13) eX6_chart_12 rfl rfl trivial ?_
    refine aw_Oget (pc' := 16) (ci := 6) (kf := 10) (N := 14) (.ref 59) hO eX6_chart_13 rfl rfl rfl inX6 (by decide) q260 rfl ?_
    refine aw_callv (pc' := 19) (nn := 0) (c_X0_readsSea (d := d - 1) hR hn hA (by omega) (by omega)) eX6_chart_16 rfl ⟨q416, q419, q59⟩ q417 q418 ⟨rfl, by decide +kernel, by decide +kernel, by decide +kernel⟩ rfl hR.ob rfl ⟨by omega, by decide⟩ ⟨by omega, by omega⟩ rfl (Nat.le_of_ble_eq_true rfl) (fun v1 h2 hq3 => ?_)
    obtain ⟨rfl, b6, s6, ⟨r6, hN6, hR6⟩, hs6⟩ := or_l hq3 hgd
    have hF4 := hO.fr hs6 (by omega)
    dsimp only [Option.toList, List.cons_append, List.nil_append]
    refine aw_astore_n (pc' := 20) eX6_chart_19 rfl (by decide) trivial ?_
    dsimp only [zst, zst2, zcut]
    refine aw_aload_n (pc' := 21) eX6_chart_20 rfl rfl trivial ?_
    refine aw_ifnonnull (pc' := 24) (tgt := 35) eX6_chart_21 rfl (by decide) trivial (fun c_21 => ?_) (fun c_21 => ?_)
    · exact absurd rfl c_21
    · refine aw_bipush (pc' := 26) (v := -10) eX6_chart_24 rfl (by decide) ?_
      refine aw_aload_n (pc' := 27) eX6_chart_26 rfl rfl trivial ?_
      refine aw_Oget (pc' := 30) (ci := 6) (kf := 10) (N := 14) (.ref 59) hF4 eX6_chart_27 rfl rfl rfl inX6 (by decide) q260 rfl ?_
      refine aw_callv (pc' := 33) (nn := 0) (c_X0_fault (d := d - 1) hR6 (by omega)) eX6_chart_30 rfl ⟨q583, q586, q59⟩ q584 q585 ⟨rfl, by decide +kernel, by decide +kernel, by decide +kernel⟩ rfl (hR6).ob rfl ⟨by omega, by decide⟩ ⟨by omega, by omega⟩ rfl (Nat.le_of_ble_eq_true rfl) (fun v5 h6 hq7 => ?_)
      obtain ⟨rfl, rfl⟩ := hq7
      dsimp only [Option.toList, List.cons_append, List.nil_append]
      refine aw_isub (pc' := 34) eX6_chart_33 rfl ?_
      refine aw_ret (v := some (.int _)) eX6_chart_34 ⟨rfl, rfl⟩ (by omega) (by omega) rfl ?_
      exact ⟨rfl, ⟨_, _, _, _, hR6⟩, hs6⟩
  · exact absurd ((nI_ltI (b := 6) (by omega) (by omega)).mpr hc) c_6
theorem c_X6_chart {L : Nat → Int32} {v : Value} (hG : WG h 17 g (nI 9999) L v) {n ra c : Nat} {R : Nat → Int32} {rb : Bool} {rs : List Int32} {rr : Int32} (hO : OA h 16 (.inr (6, afs bi (nI c)))) (hR : RdAt h 59 n R ra rb rs rr) (hn : n ≤ 100) (hA : RA R n) (hz : 96 ≤ h.1 + 16) (hc : c < 6) (hgd : pGood n (pRA R n mLe N0 mWo) = true) (hd : 21 ≤ d) : Ct l G mX6_chart yX6_chart d 2 102 [.ref 16] h (fun r h' => r = some (.int (nI c)) ∧ OA h' 16 (.inr (6, afs bi (nI (c + 1)))) ∧ WG h' 17 g (nI 9999) L (.ref (h.1 + 16)) ∧ (∃ a' b' s' r', RdAt h' 59 0 R a' b' s' r') ∧ h'.1 = h.1 + 2 ∧ (∀ x, x < h.1 + 16 → (x < 16 ∨ 27 ≤ x) → (x < 59 ∨ 62 ≤ x) → h'.2 x = h.2 x) ∧ ∃ L6 f6 rr6, OA h' (h.1 + 16) (.inr (2, [.ref (h.1 + 17), .int rr6])) ∧ OA h' (h.1 + 17) (.inl (0, (L6, .inl f6))) ∧ L6 ≤ 100 ∧ ∀ N, (pRA R n mLe N mWo).2 = (N 3 + (cAd f6 N L6).1, rr6)) := by
  refine ct_of (lv := [some (.ref 16), none]) (by decide +kernel) rfl (fun z => by cases z) (fun _ => rfl) (fun _ => Nat.le_of_ble_eq_true rfl) ?_
  refine aw_aload_n (pc' := 1) eX6_chart_0 rfl rfl trivial ?_
  refine aw_Oget (pc' := 4) (ci := 6) (kf := 11) (N := 14) (.int (nI c)) hO eX6_chart_1 rfl rfl rfl inX6 (by decide) q261 rfl ?_
  refine aw_bipush (pc' := 6) (v := 6) eX6_chart_4 rfl (by decide) ?_
  refine aw_icmp_lt (pc' := 9) (tgt := 12) eX6_chart_6 rfl (by decide) (fun c_6 => ?_) (fun c_6 => ?_)
  · refine aw_aload_n (pc' := 13) eX6_chart_12 rfl rfl trivial ?_
    refine aw_Oget (pc' := 16) (ci := 6) (kf := 10) (N := 14) (.ref 59) hO eX6_chart_13 rfl rfl rfl inX6 (by decide) q260 rfl ?_
    refine aw_callv (pc' := 19) (nn := 0) (c_X0_readsSea (d := d - 1) hR hn hA (by omega) (by omega)) eX6_chart_16 rfl ⟨q416, q419, q59⟩ q417 q418 ⟨rfl, by decide +kernel, by decide +kernel, by decide +kernel⟩ rfl hR.ob rfl ⟨by omega, by decide⟩ ⟨by omega, by omega⟩ rfl (Nat.le_of_ble_eq_true rfl) (fun v1 h2 hq3 => ?_)
    obtain ⟨rfl, L6, f6, rr6, hC1, hC2, hL6, ⟨a6, b6, s6, hR6⟩, hh6, hf6, hN6⟩ := or_r hq3 hgd
    have hO6 : OA _ 16 _ := ⟨(hf6 16 (by omega) (by omega)).trans hO.1, hO.2⟩
    have hG6 := WAt.fx hG (fun x h1 h2 => hf6 x (by omega) (by omega))
    dsimp only [Option.toList, List.cons_append, List.nil_append]
    refine aw_astore_n (pc' := 20) eX6_chart_19 rfl (by decide) trivial ?_
    dsimp only [zst, zst2, zcut]
    refine aw_aload_n (pc' := 21) eX6_chart_20 rfl rfl trivial ?_
    refine aw_ifnonnull (pc' := 24) (tgt := 35) eX6_chart_21 rfl (by decide) trivial (fun c_21 => ?_) (fun c_21 => ?_)
    · refine aw_aload_n (pc' := 36) eX6_chart_35 rfl rfl trivial ?_
      refine aw_Oget (pc' := 39) (ci := 6) (kf := 0) (N := 14) (.ref 17) hO6 eX6_chart_36 rfl rfl rfl inX6 (by decide) q250 rfl ?_
      refine aw_aload_n (pc' := 40) eX6_chart_39 rfl rfl trivial ?_
      refine aw_Gpse (pc' := 43) hG6 eX6_chart_40 rfl q124 trivial (fun h6 hW4 hs5 => ?_)
      have hF7 := hO6.fr hs5 (by omega)
      have hF8 := hR6.fr hs5 (by omega)
      have hF9 := hC1.fr hs5 (by omega)
      have hF10 := hC2.fr hs5 (by omega)
      refine aw_aload_n (pc' := 44) eX6_chart_43 rfl rfl trivial ?_
      refine aw_dup (pc' := 45) eX6_chart_44 rfl rfl ?_
      refine aw_Oget (pc' := 48) (ci := 6) (kf := 11) (N := 14) (.int (nI c)) hF7 eX6_chart_45 rfl rfl rfl inX6 (by decide) q261 rfl ?_
      refine aw_iconst (pc' := 49) (v := 1) eX6_chart_48 rfl (by decide) ?_
      refine aw_iadd (pc' := 50) eX6_chart_49 rfl ?_
      rw [show nI c + 1 = nI (c + 1) from nI_1 c]
      refine aw_Oput (pc' := 53) (ci := 6) (kf := 11) (N := 14) (ty0 := tyX6) (afs bi (nI (c + 1))) hF7 eX6_chart_50 rfl rfl rfl inX6 tyX6_ok nmX6 (by decide) q261 rfl (by first | trivial | exact Or.inl rfl | exact Or.inr rfl | (simp [zfit]; done)) rfl (fun h13 hO11 hs12 => ?_)
      have hF14 := hW4.fr hs12 (by omega)
      have hF15 := hF8.fr hs12 (by omega)
      have hF16 := hF9.fr hs12 (by omega)
      have hF17 := hF10.fr hs12 (by omega)
      refine aw_aload_n (pc' := 54) eX6_chart_53 rfl rfl trivial ?_
      refine aw_Oget (pc' := 57) (ci := 6) (kf := 11) (N := 14) (.int (nI (c + 1))) hO11 eX6_chart_54 rfl rfl rfl inX6 (by decide) q261 rfl ?_
      refine aw_iconst (pc' := 58) (v := 1) eX6_chart_57 rfl (by decide) ?_
      refine aw_isub (pc' := 59) eX6_chart_58 rfl ?_
      refine aw_ret (v := some (.int _)) eX6_chart_59 ⟨rfl, rfl⟩ (by omega) (by omega) rfl ?_
      rw [show nI (c + 1) - 1 = nI c from nI_subn (a := c) (b := 1)]
      refine ⟨rfl, hO11, hF14, ⟨_, _, _, _, hF15⟩, hs12.1.trans (hs5.1.trans hh6), fun x h1 h2 h3 => (hs12.2 x (by omega)).trans ((hs5.2 x (by omega)).trans (hf6 x h1 (by omega))), L6, f6, rr6, hF16, hF17, hL6, hN6⟩
    · cases c_21
  · exact absurd ((nI_ltI (b := 6) (by omega) (by omega)).mpr hc) c_6
end C22
