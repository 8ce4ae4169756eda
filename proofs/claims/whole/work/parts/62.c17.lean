/-! the class AmberGrains: what is asked -/
section C17
variable {F : FT} {l : Launch} {G : GT} {d m t a : Nat} {g : Nat → Int32} {f : Nat → Int32} {h : Hp} {Q : Option Value → Hp → Prop} {bi se : Int32}
theorem on_hi {w : Int32} (hm6 : m ≤ 6) (c : ¬ w < 20) : bIn (w - 10) 0 (nI m - 1) = false := by
  cases e : bIn (w - 10) 0 (nI m - 1) with
  | false => rfl
  | true =>
    obtain ⟨i, hi, ei⟩ := (bIn_one hm6).mp e
    have ew : w = nI (i + 10) := by rw [← nI_add, ← ei]; show w = w - 10 + 10; rw [Int32.sub_add_cancel]
    rw [ew] at c
    exact absurd ((nI_ltI (b := 20) (by omega) (by omega)).mpr (by omega)) c
theorem on_lo {w : Int32} (hm6 : m ≤ 6) (c : w < 20) : bIn (w - 20) 0 (nI m - 1) = false := by
  cases e : bIn (w - 20) 0 (nI m - 1) with
  | false => rfl
  | true =>
    obtain ⟨i, hi, ei⟩ := (bIn_one hm6).mp e
    have ew : w = nI (i + 20) := by rw [← nI_add, ← ei]; show w = w - 20 + 20; rw [Int32.sub_add_cancel]
    rw [ew] at c
    have := (nI_ltI (b := 20) (by omega) (by omega)).mp c
    omega
/-- counted from the least on -/
def cC (p : Nat → Bool) : Nat → Int32 × Int32
  | 0 => (0, -5)
  | n + 1 => if p n = true then ((cC p n).1 + 1, if (cC p n).2 = -5 then nI n else (cC p n).2) else cC p n
theorem can_B (p : Nat → Bool) : sCan1 (wB p 10) 10 = cC p 10 := by
  have key : ∀ b0 b1 b2 b3 b4 b5 b6 b7 b8 b9 : Bool, sCan1 (wB (fun k => [b0, b1, b2, b3, b4, b5, b6, b7, b8, b9].getD k false) 10) 10 = cC (fun k => [b0, b1, b2, b3, b4, b5, b6, b7, b8, b9].getD k false) 10 := by decide +kernel
  have z := key (p 0) (p 1) (p 2) (p 3) (p 4) (p 5) (p 6) (p 7) (p 8) (p 9)
  have e : ∀ k, k < 10 → [p 0, p 1, p 2, p 3, p 4, p 5, p 6, p 7, p 8, p 9].getD k false = p k := fun k hk => by
    rcases (by omega : k = 0 ∨ k = 1 ∨ k = 2 ∨ k = 3 ∨ k = 4 ∨ k = 5 ∨ k = 6 ∨ k = 7 ∨ k = 8 ∨ k = 9) with rfl | rfl | rfl | rfl | rfl | rfl | rfl | rfl | rfl | rfl <;> rfl
  have e1 : ∀ m, m ≤ 10 → wB (fun k => [p 0, p 1, p 2, p 3, p 4, p 5, p 6, p 7, p 8, p 9].getD k false) m = wB p m := by
    intro m
    induction m with
    | zero => intro _; rfl
    | succ i ih => intro hi; rw [wB, wB, ih (by omega), e i (by omega)]
  have e2 : ∀ m, m ≤ 10 → cC (fun k => [p 0, p 1, p 2, p 3, p 4, p 5, p 6, p 7, p 8, p 9].getD k false) m = cC p m := by
    intro m
    induction m with
    | zero => intro _; rfl
    | succ i ih => intro hi; rw [cC, cC, ih (by omega), e i (by omega)]
  rw [e1 10 (by omega), e2 10 (by omega)] at z
  exact z
theorem sFit_B (F : FT) (g : Nat → Int32) (m a t p : Nat) : ∀ k, sFit1 F g m a t p k = wB (fun v => sAll F m a 13 0 t (upd g p (nI v))) k
  | 0 => rfl
  | k + 1 => by rw [sFit1, wB, sFit_B F g m a t p k]

theorem of_no {w : Int32} (h0 : ¬ w = 0) (h1 : ¬ w = 1) (h2 : ¬ w = 2) (h3 : ¬ w = 3) (h4 : ¬ w = 4) (h5 : ¬ w = 5) (h12 : ¬ w = 12) (h13 : ¬ w = 13) (h14 : ¬ w = 14) : bIn w 0 5 = false ∧ bIn w 12 14 = false ∧ True := by
  have e : ∀ k : Int, ∀ c : Int32, c.toInt = k → w.toInt = k → w = c := fun k c h1 h2 => Int32.toInt_inj.mp (h2.trans h1.symm)
  refine ⟨?_, ?_, trivial⟩
  · cases z : bIn w 0 5 with
    | false => rfl
    | true =>
      have y := bIn_toInt.mp z
      rw [show (0 : Int32).toInt = 0 from by decide, show (5 : Int32).toInt = 5 from by decide] at y
      rcases (by omega : w.toInt = 0 ∨ w.toInt = 1 ∨ w.toInt = 2 ∨ w.toInt = 3 ∨ w.toInt = 4 ∨ w.toInt = 5) with q | q | q | q | q | q
      · exact absurd (e _ _ (by decide) q) h0
      · exact absurd (e _ _ (by decide) q) h1
      · exact absurd (e _ _ (by decide) q) h2
      · exact absurd (e _ _ (by decide) q) h3
      · exact absurd (e _ _ (by decide) q) h4
      · exact absurd (e _ _ (by decide) q) h5
  · cases z : bIn w 12 14 with
    | false => rfl
    | true =>
      have y := bIn_toInt.mp z
      rw [show (12 : Int32).toInt = 12 from by decide, show (14 : Int32).toInt = 14 from by decide] at y
      rcases (by omega : w.toInt = 12 ∨ w.toInt = 13 ∨ w.toInt = 14) with q | q | q
      · exact absurd (e _ _ (by decide) q) h12
      · exact absurd (e _ _ (by decide) q) h13
      · exact absurd (e _ _ (by decide) q) h14
abbrev mX6_of : MT := (RX6, cX6_of, 3, (some .int), false)
theorem eX6_of_0 : decode mX6_of.2.1 0 = .ok (.aload_n 0, 1) := by decide +kernel
theorem eX6_of_1 : decode mX6_of.2.1 1 = .ok (.getfield 16, 3) := by decide +kernel
theorem eX6_of_4 : decode mX6_of.2.1 4 = .ok (.iload_n 1, 1) := by decide +kernel
theorem eX6_of_5 : decode mX6_of.2.1 5 = .ok (.invokevirtual 85, 3) := by decide +kernel
theorem eX6_of_8 : decode mX6_of.2.1 8 = .ok (.ifCond .ne 7, 3) := by decide +kernel
theorem eX6_of_11 : decode mX6_of.2.1 11 = .ok (.sipush (-10001), 3) := by decide +kernel
theorem eX6_of_14 : decode mX6_of.2.1 14 = .ok (.ireturn, 1) := by decide +kernel
theorem eX6_of_15 : decode mX6_of.2.1 15 = .ok (.iload_n 2, 1) := by decide +kernel
theorem eX6_of_16 : decode mX6_of.2.1 16 = .ok (.tableswitch 178 0 14 #[76, 86, 96, 106, 116, 126, 136, 145, 151, 178, 178, 178, 157, 157, 157], 76) := by decide +kernel
theorem eX6_of_92 : decode mX6_of.2.1 92 = .ok (.aload_n 0, 1) := by decide +kernel
theorem eX6_of_93 : decode mX6_of.2.1 93 = .ok (.getfield 16, 3) := by decide +kernel
theorem eX6_of_96 : decode mX6_of.2.1 96 = .ok (.getfield 89, 3) := by decide +kernel
theorem eX6_of_99 : decode mX6_of.2.1 99 = .ok (.iload_n 1, 1) := by decide +kernel
theorem eX6_of_100 : decode mX6_of.2.1 100 = .ok (.iaload, 1) := by decide +kernel
theorem eX6_of_101 : decode mX6_of.2.1 101 = .ok (.ireturn, 1) := by decide +kernel
theorem eX6_of_102 : decode mX6_of.2.1 102 = .ok (.aload_n 0, 1) := by decide +kernel
theorem eX6_of_103 : decode mX6_of.2.1 103 = .ok (.getfield 16, 3) := by decide +kernel
theorem eX6_of_106 : decode mX6_of.2.1 106 = .ok (.getfield 93, 3) := by decide +kernel
theorem eX6_of_109 : decode mX6_of.2.1 109 = .ok (.iload_n 1, 1) := by decide +kernel
theorem eX6_of_110 : decode mX6_of.2.1 110 = .ok (.iaload, 1) := by decide +kernel
theorem eX6_of_111 : decode mX6_of.2.1 111 = .ok (.ireturn, 1) := by decide +kernel
theorem eX6_of_112 : decode mX6_of.2.1 112 = .ok (.aload_n 0, 1) := by decide +kernel
theorem eX6_of_113 : decode mX6_of.2.1 113 = .ok (.getfield 16, 3) := by decide +kernel
theorem eX6_of_116 : decode mX6_of.2.1 116 = .ok (.getfield 96, 3) := by decide +kernel
theorem eX6_of_119 : decode mX6_of.2.1 119 = .ok (.iload_n 1, 1) := by decide +kernel
theorem eX6_of_120 : decode mX6_of.2.1 120 = .ok (.iaload, 1) := by decide +kernel
theorem eX6_of_121 : decode mX6_of.2.1 121 = .ok (.ireturn, 1) := by decide +kernel
theorem eX6_of_122 : decode mX6_of.2.1 122 = .ok (.aload_n 0, 1) := by decide +kernel
theorem eX6_of_123 : decode mX6_of.2.1 123 = .ok (.getfield 16, 3) := by decide +kernel
theorem eX6_of_126 : decode mX6_of.2.1 126 = .ok (.getfield 99, 3) := by decide +kernel
theorem eX6_of_129 : decode mX6_of.2.1 129 = .ok (.iload_n 1, 1) := by decide +kernel
theorem eX6_of_130 : decode mX6_of.2.1 130 = .ok (.iaload, 1) := by decide +kernel
theorem eX6_of_131 : decode mX6_of.2.1 131 = .ok (.ireturn, 1) := by decide +kernel
theorem eX6_of_132 : decode mX6_of.2.1 132 = .ok (.aload_n 0, 1) := by decide +kernel
theorem eX6_of_133 : decode mX6_of.2.1 133 = .ok (.getfield 16, 3) := by decide +kernel
theorem eX6_of_136 : decode mX6_of.2.1 136 = .ok (.getfield 102, 3) := by decide +kernel
theorem eX6_of_139 : decode mX6_of.2.1 139 = .ok (.iload_n 1, 1) := by decide +kernel
theorem eX6_of_140 : decode mX6_of.2.1 140 = .ok (.iaload, 1) := by decide +kernel
theorem eX6_of_141 : decode mX6_of.2.1 141 = .ok (.ireturn, 1) := by decide +kernel
theorem eX6_of_142 : decode mX6_of.2.1 142 = .ok (.aload_n 0, 1) := by decide +kernel
theorem eX6_of_143 : decode mX6_of.2.1 143 = .ok (.getfield 16, 3) := by decide +kernel
theorem eX6_of_146 : decode mX6_of.2.1 146 = .ok (.getfield 105, 3) := by decide +kernel
theorem eX6_of_149 : decode mX6_of.2.1 149 = .ok (.iload_n 1, 1) := by decide +kernel
theorem eX6_of_150 : decode mX6_of.2.1 150 = .ok (.iaload, 1) := by decide +kernel
theorem eX6_of_151 : decode mX6_of.2.1 151 = .ok (.ireturn, 1) := by decide +kernel
theorem eX6_of_152 : decode mX6_of.2.1 152 = .ok (.aload_n 0, 1) := by decide +kernel
theorem eX6_of_153 : decode mX6_of.2.1 153 = .ok (.getfield 16, 3) := by decide +kernel
theorem eX6_of_156 : decode mX6_of.2.1 156 = .ok (.iload_n 1, 1) := by decide +kernel
theorem eX6_of_157 : decode mX6_of.2.1 157 = .ok (.invokevirtual 108, 3) := by decide +kernel
theorem eX6_of_160 : decode mX6_of.2.1 160 = .ok (.ireturn, 1) := by decide +kernel
theorem eX6_of_161 : decode mX6_of.2.1 161 = .ok (.aload_n 0, 1) := by decide +kernel
theorem eX6_of_162 : decode mX6_of.2.1 162 = .ok (.iload_n 1, 1) := by decide +kernel
theorem eX6_of_163 : decode mX6_of.2.1 163 = .ok (.invokevirtual 112, 3) := by decide +kernel
theorem eX6_of_166 : decode mX6_of.2.1 166 = .ok (.ireturn, 1) := by decide +kernel
theorem eX6_of_167 : decode mX6_of.2.1 167 = .ok (.aload_n 0, 1) := by decide +kernel
theorem eX6_of_168 : decode mX6_of.2.1 168 = .ok (.iload_n 1, 1) := by decide +kernel
theorem eX6_of_169 : decode mX6_of.2.1 169 = .ok (.invokevirtual 115, 3) := by decide +kernel
theorem eX6_of_172 : decode mX6_of.2.1 172 = .ok (.ireturn, 1) := by decide +kernel
theorem eX6_of_173 : decode mX6_of.2.1 173 = .ok (.aload_n 0, 1) := by decide +kernel
theorem eX6_of_174 : decode mX6_of.2.1 174 = .ok (.getfield 21, 3) := by decide +kernel
theorem eX6_of_177 : decode mX6_of.2.1 177 = .ok (.aload_n 0, 1) := by decide +kernel
theorem eX6_of_178 : decode mX6_of.2.1 178 = .ok (.getfield 16, 3) := by decide +kernel
theorem eX6_of_181 : decode mX6_of.2.1 181 = .ok (.invokevirtual 118, 3) := by decide +kernel
theorem eX6_of_184 : decode mX6_of.2.1 184 = .ok (.aload_n 0, 1) := by decide +kernel
theorem eX6_of_185 : decode mX6_of.2.1 185 = .ok (.iload_n 1, 1) := by decide +kernel
theorem eX6_of_186 : decode mX6_of.2.1 186 = .ok (.iload_n 2, 1) := by decide +kernel
theorem eX6_of_187 : decode mX6_of.2.1 187 = .ok (.bipush 10, 2) := by decide +kernel
theorem eX6_of_189 : decode mX6_of.2.1 189 = .ok (.isub, 1) := by decide +kernel
theorem eX6_of_190 : decode mX6_of.2.1 190 = .ok (.invokevirtual 122, 3) := by decide +kernel
theorem eX6_of_193 : decode mX6_of.2.1 193 = .ok (.ireturn, 1) := by decide +kernel
theorem eX6_of_194 : decode mX6_of.2.1 194 = .ok (.sipush (-10001), 3) := by decide +kernel
theorem eX6_of_197 : decode mX6_of.2.1 197 = .ok (.ireturn, 1) := by decide +kernel
theorem c_X6_of (hO : OA h 16 (.inr (6, afs bi se))) (hN : WF F h 17 g (nI 9999)) (hT : DT h 27 (nI 2147483647)) (hg : gOk g m t) (hA : gAge g m t) (ht9 : t ≤ 20000) (tl w : Int32) (hd : 9 ≤ d) : Ct l G mX6_of yX6_of d 0 0 [.ref 16, .int tl, .int w] h (fun r h' => r = some (.int (sOf F g m t tl w)) ∧ WF F h' 17 g (nI 9999) ∧ DT h' 27 (nI 2147483647) ∧ Same 17 20 h h') := by
  refine ct_of (lv := [some (.ref 16), some (.int tl), some (.int w)]) (by decide +kernel) rfl (fun z => by cases z) (fun _ => rfl) (fun _ => Nat.le_of_ble_eq_true rfl) ?_
  have hgg := hg
  obtain ⟨hm, hm6, ht, ht2, hgq⟩ := hgg
  refine aw_aload_n (pc' := 1) eX6_of_0 rfl rfl trivial ?_
  refine aw_Oget (pc' := 4) (ci := 6) (kf := 0) (N := 14) (.ref 17) hO eX6_of_1 rfl rfl rfl inX6 (by decide) q250 rfl ?_
  refine aw_iload_n (pc' := 5) eX6_of_4 rfl rfl ?_
  refine aw_callv (pc' := 8) (nn := 1) (c_X5_has (d := d - 1) hN hm hm6 _ (by omega)) eX6_of_5 rfl ⟨q305, q308, q56⟩ q306 q307 ⟨rfl, by decide +kernel, by decide +kernel, by decide +kernel⟩ rfl hN.ob rfl ⟨by omega, by decide⟩ ⟨by omega, by omega⟩ rfl (Nat.le_of_ble_eq_true rfl) (fun v1 h2 hq3 => ?_)
  obtain ⟨rfl, rfl⟩ := hq3
  dsimp only [Option.toList, List.cons_append, List.nil_append]
  refine aw_if_ne (pc' := 11) (tgt := 15) eX6_of_8 rfl (by decide) (fun c_8 => ?_) (fun c_8 => ?_)
  · have hb9 := zb_ne0.mp c_8
    obtain ⟨b, hb, rfl⟩ := (bIn_one hm6).mp hb9
    have clb : (nI b).toNatClampNeg = b := nI_clamp (by omega)
    refine aw_iload_n (pc' := 16) eX6_of_15 rfl rfl ?_
    refine aw_tsw (v := 0) (tgt := 92) eX6_of_16 (by decide) (by decide) rfl (by decide) (fun c_16 => ?_) (fun n_16_0 => ?_)
    · refine aw_aload_n (pc' := 93) eX6_of_92 rfl rfl trivial ?_
      refine aw_Oget (pc' := 96) (ci := 6) (kf := 0) (N := 14) (.ref 17) hO eX6_of_93 rfl rfl rfl inX6 (by decide) q250 rfl ?_
      refine aw_Fref (pc' := 99) (kf := 1) hN eX6_of_96 rfl (by decide) q99 ?_
      refine aw_iload_n (pc' := 100) eX6_of_99 rfl rfl ?_
      refine aw_Fld (pc' := 101) 1 0 b hN eX6_of_100 rfl (by decide) rfl (show vp_in _ 6 from vp_in_nI (by omega) (by omega)) (nI_clamp (by omega)) ?_
      dsimp only [Nat.add_zero]
      refine aw_ret (v := some (.int _)) eX6_of_101 ⟨rfl, rfl⟩ (by omega) (by omega) rfl ?_
      subst c_16
      rw [sOf, if_pos hb9, if_pos (by decide), clb]
      exact ⟨rfl, hN, hT, Same.rf⟩
    refine aw_tsw (v := 1) (tgt := 102) eX6_of_16 (by decide) (by decide) rfl (by decide) (fun c_16 => ?_) (fun n_16_1 => ?_)
    · refine aw_aload_n (pc' := 103) eX6_of_102 rfl rfl trivial ?_
      refine aw_Oget (pc' := 106) (ci := 6) (kf := 0) (N := 14) (.ref 17) hO eX6_of_103 rfl rfl rfl inX6 (by decide) q250 rfl ?_
      refine aw_Fref (pc' := 109) (kf := 2) hN eX6_of_106 rfl (by decide) q101 ?_
      refine aw_iload_n (pc' := 110) eX6_of_109 rfl rfl ?_
      refine aw_Fld (pc' := 111) 2 1 b hN eX6_of_110 rfl (by decide) rfl (show vp_in _ 6 from vp_in_nI (by omega) (by omega)) (nI_clamp (by omega)) ?_
      refine aw_ret (v := some (.int _)) eX6_of_111 ⟨rfl, rfl⟩ (by omega) (by omega) rfl ?_
      subst c_16
      rw [sOf, if_pos hb9, if_pos (by decide), clb]
      exact ⟨rfl, hN, hT, Same.rf⟩
    refine aw_tsw (v := 2) (tgt := 112) eX6_of_16 (by decide) (by decide) rfl (by decide) (fun c_16 => ?_) (fun n_16_2 => ?_)
    · refine aw_aload_n (pc' := 113) eX6_of_112 rfl rfl trivial ?_
      refine aw_Oget (pc' := 116) (ci := 6) (kf := 0) (N := 14) (.ref 17) hO eX6_of_113 rfl rfl rfl inX6 (by decide) q250 rfl ?_
      refine aw_Fref (pc' := 119) (kf := 3) hN eX6_of_116 rfl (by decide) q103 ?_
      refine aw_iload_n (pc' := 120) eX6_of_119 rfl rfl ?_
      refine aw_Fld (pc' := 121) 3 2 b hN eX6_of_120 rfl (by decide) rfl (show vp_in _ 6 from vp_in_nI (by omega) (by omega)) (nI_clamp (by omega)) ?_
      refine aw_ret (v := some (.int _)) eX6_of_121 ⟨rfl, rfl⟩ (by omega) (by omega) rfl ?_
      subst c_16
      rw [sOf, if_pos hb9, if_pos (by decide), clb]
      exact ⟨rfl, hN, hT, Same.rf⟩
    refine aw_tsw (v := 3) (tgt := 122) eX6_of_16 (by decide) (by decide) rfl (by decide) (fun c_16 => ?_) (fun n_16_3 => ?_)
    · refine aw_aload_n (pc' := 123) eX6_of_122 rfl rfl trivial ?_
      refine aw_Oget (pc' := 126) (ci := 6) (kf := 0) (N := 14) (.ref 17) hO eX6_of_123 rfl rfl rfl inX6 (by decide) q250 rfl ?_
      refine aw_Fref (pc' := 129) (kf := 4) hN eX6_of_126 rfl (by decide) q105 ?_
      refine aw_iload_n (pc' := 130) eX6_of_129 rfl rfl ?_
      refine aw_Fld (pc' := 131) 4 3 b hN eX6_of_130 rfl (by decide) rfl (show vp_in _ 6 from vp_in_nI (by omega) (by omega)) (nI_clamp (by omega)) ?_
      refine aw_ret (v := some (.int _)) eX6_of_131 ⟨rfl, rfl⟩ (by omega) (by omega) rfl ?_
      subst c_16
      rw [sOf, if_pos hb9, if_pos (by decide), clb]
      exact ⟨rfl, hN, hT, Same.rf⟩
    refine aw_tsw (v := 4) (tgt := 132) eX6_of_16 (by decide) (by decide) rfl (by decide) (fun c_16 => ?_) (fun n_16_4 => ?_)
    · refine aw_aload_n (pc' := 133) eX6_of_132 rfl rfl trivial ?_
      refine aw_Oget (pc' := 136) (ci := 6) (kf := 0) (N := 14) (.ref 17) hO eX6_of_133 rfl rfl rfl inX6 (by decide) q250 rfl ?_
      refine aw_Fref (pc' := 139) (kf := 5) hN eX6_of_136 rfl (by decide) q107 ?_
      refine aw_iload_n (pc' := 140) eX6_of_139 rfl rfl ?_
      refine aw_Fld (pc' := 141) 5 4 b hN eX6_of_140 rfl (by decide) rfl (show vp_in _ 6 from vp_in_nI (by omega) (by omega)) (nI_clamp (by omega)) ?_
      refine aw_ret (v := some (.int _)) eX6_of_141 ⟨rfl, rfl⟩ (by omega) (by omega) rfl ?_
      subst c_16
      rw [sOf, if_pos hb9, if_pos (by decide), clb]
      exact ⟨rfl, hN, hT, Same.rf⟩
    refine aw_tsw (v := 5) (tgt := 142) eX6_of_16 (by decide) (by decide) rfl (by decide) (fun c_16 => ?_) (fun n_16_5 => ?_)
    · refine aw_aload_n (pc' := 143) eX6_of_142 rfl rfl trivial ?_
      refine aw_Oget (pc' := 146) (ci := 6) (kf := 0) (N := 14) (.ref 17) hO eX6_of_143 rfl rfl rfl inX6 (by decide) q250 rfl ?_
      refine aw_Fref (pc' := 149) (kf := 6) hN eX6_of_146 rfl (by decide) q109 ?_
      refine aw_iload_n (pc' := 150) eX6_of_149 rfl rfl ?_
      refine aw_Fld (pc' := 151) 6 5 b hN eX6_of_150 rfl (by decide) rfl (show vp_in _ 6 from vp_in_nI (by omega) (by omega)) (nI_clamp (by omega)) ?_
      refine aw_ret (v := some (.int _)) eX6_of_151 ⟨rfl, rfl⟩ (by omega) (by omega) rfl ?_
      subst c_16
      rw [sOf, if_pos hb9, if_pos (by decide), clb]
      exact ⟨rfl, hN, hT, Same.rf⟩
    refine aw_tsw (v := 6) (tgt := 152) eX6_of_16 (by decide) (by decide) rfl (by decide) (fun c_16 => ?_) (fun n_16_6 => ?_)
    · refine aw_aload_n (pc' := 153) eX6_of_152 rfl rfl trivial ?_
      refine aw_Oget (pc' := 156) (ci := 6) (kf := 0) (N := 14) (.ref 17) hO eX6_of_153 rfl rfl rfl inX6 (by decide) q250 rfl ?_
      refine aw_iload_n (pc' := 157) eX6_of_156 rfl rfl ?_
      refine aw_callv (pc' := 160) (nn := 1) (c_X5_load (d := d - 1) hN hg (i := b) (by omega) (by omega)) eX6_of_157 rfl ⟨q309, q312, q56⟩ q310 q311 ⟨rfl, by decide +kernel, by decide +kernel, by decide +kernel⟩ rfl hN.ob rfl ⟨by omega, by decide⟩ ⟨by omega, by omega⟩ rfl (Nat.le_of_ble_eq_true rfl) (fun v6 h7 hq8 => ?_)
      obtain ⟨rfl, hW4, hs5⟩ := hq8
      have hz9 := hs5.w (w2 := 17) (n2 := 20) (by omega) (by omega)
      have hF10 := hO.fr hs5 (by omega)
      have hF11 := hT.fr hs5 (by omega)
      dsimp only [Option.toList, List.cons_append, List.nil_append]
      refine aw_ret (v := some (.int _)) eX6_of_160 ⟨rfl, rfl⟩ (by omega) (by omega) rfl ?_
      subst c_16
      rw [sOf, if_pos hb9, if_neg (show ¬ bIn 6 0 5 = true by decide), if_pos rfl, clb]
      exact ⟨rfl, hW4, hF11, hz9⟩
    refine aw_tsw (v := 7) (tgt := 161) eX6_of_16 (by decide) (by decide) rfl (by decide) (fun c_16 => ?_) (fun n_16_7 => ?_)
    · refine aw_aload_n (pc' := 162) eX6_of_161 rfl rfl trivial ?_
      refine aw_iload_n (pc' := 163) eX6_of_162 rfl rfl ?_
      refine aw_callv (pc' := 166) (nn := 1) (c_X6_blowOf (d := d - 1) hO hN hT hg hA ht9 (i := b) (by omega) (by omega)) eX6_of_163 rfl ⟨q328, q331, q55⟩ q330 q2 ⟨rfl, by decide +kernel, by decide +kernel, by decide +kernel⟩ rfl (by rw [hO.1]; exact ⟨rfl, rfl⟩) rfl ⟨by omega, by decide⟩ ⟨by omega, by omega⟩ rfl (Nat.le_of_ble_eq_true rfl) (fun v14 h15 hq16 => ?_)
      obtain ⟨rfl, hW12, hs13⟩ := hq16
      have hz17 := hs13.w (w2 := 17) (n2 := 20) (by omega) (by omega)
      have hF18 := hO.fr hs13 (by omega)
      have hF19 := hN.fr hs13 (by omega)
      dsimp only [Option.toList, List.cons_append, List.nil_append]
      refine aw_ret (v := some (.int _)) eX6_of_166 ⟨rfl, rfl⟩ (by omega) (by omega) rfl ?_
      subst c_16
      rw [sOf, if_pos hb9, if_neg (show ¬ bIn 7 0 5 = true by decide), if_neg (show ¬ (7 : Int32) = 6 by decide), if_pos rfl, clb]
      exact ⟨rfl, hF19, hW12, hz17⟩
    refine aw_tsw (v := 8) (tgt := 167) eX6_of_16 (by decide) (by decide) rfl (by decide) (fun c_16 => ?_) (fun n_16_8 => ?_)
    · refine aw_aload_n (pc' := 168) eX6_of_167 rfl rfl trivial ?_
      refine aw_iload_n (pc' := 169) eX6_of_168 rfl rfl ?_
      refine aw_callv (pc' := 172) (nn := 1) (c_X6_newsOf (d := d - 1) hO hN hT hg hA ht9 (i := b) (by omega) (by omega)) eX6_of_169 rfl ⟨q363, q366, q55⟩ q365 q6 ⟨rfl, by decide +kernel, by decide +kernel, by decide +kernel⟩ rfl (by rw [hO.1]; exact ⟨rfl, rfl⟩) rfl ⟨by omega, by decide⟩ ⟨by omega, by omega⟩ rfl (Nat.le_of_ble_eq_true rfl) (fun v22 h23 hq24 => ?_)
      obtain ⟨rfl, hW20, hs21⟩ := hq24
      have hz25 := hs21.w (w2 := 17) (n2 := 20) (by omega) (by omega)
      have hF26 := hO.fr hs21 (by omega)
      have hF27 := hN.fr hs21 (by omega)
      dsimp only [Option.toList, List.cons_append, List.nil_append]
      refine aw_ret (v := some (.int _)) eX6_of_172 ⟨rfl, rfl⟩ (by omega) (by omega) rfl ?_
      subst c_16
      rw [sOf, if_pos hb9, if_neg (show ¬ bIn 8 0 5 = true by decide), if_neg (show ¬ (8 : Int32) = 6 by decide), if_neg (show ¬ (8 : Int32) = 7 by decide), if_pos rfl, clb]
      exact ⟨rfl, hF27, hW20, hz25⟩
    refine aw_tsw (v := 9) (tgt := 194) eX6_of_16 (by decide) (by decide) rfl (by decide) (fun c_16 => ?_) (fun n_16_9 => ?_)
    · refine aw_sipush (pc' := 197) (v := -10001) eX6_of_194 rfl (by decide) ?_
      refine aw_ret (v := some (.int _)) eX6_of_197 ⟨rfl, rfl⟩ (by omega) (by omega) rfl ?_
      subst c_16
      rw [sOf, if_pos hb9, if_neg (show ¬ bIn 9 0 5 = true by decide), if_neg (show ¬ (9 : Int32) = 6 by decide), if_neg (show ¬ (9 : Int32) = 7 by decide), if_neg (show ¬ (9 : Int32) = 8 by decide), if_neg (show ¬ bIn 9 12 14 = true by decide)]
      exact ⟨rfl, hN, hT, Same.rf⟩
    refine aw_tsw (v := 10) (tgt := 194) eX6_of_16 (by decide) (by decide) rfl (by decide) (fun c_16 => ?_) (fun n_16_10 => ?_)
    · refine aw_sipush (pc' := 197) (v := -10001) eX6_of_194 rfl (by decide) ?_
      refine aw_ret (v := some (.int _)) eX6_of_197 ⟨rfl, rfl⟩ (by omega) (by omega) rfl ?_
      subst c_16
      rw [sOf, if_pos hb9, if_neg (show ¬ bIn 10 0 5 = true by decide), if_neg (show ¬ (10 : Int32) = 6 by decide), if_neg (show ¬ (10 : Int32) = 7 by decide), if_neg (show ¬ (10 : Int32) = 8 by decide), if_neg (show ¬ bIn 10 12 14 = true by decide)]
      exact ⟨rfl, hN, hT, Same.rf⟩
    refine aw_tsw (v := 11) (tgt := 194) eX6_of_16 (by decide) (by decide) rfl (by decide) (fun c_16 => ?_) (fun n_16_11 => ?_)
    · refine aw_sipush (pc' := 197) (v := -10001) eX6_of_194 rfl (by decide) ?_
      refine aw_ret (v := some (.int _)) eX6_of_197 ⟨rfl, rfl⟩ (by omega) (by omega) rfl ?_
      subst c_16
      rw [sOf, if_pos hb9, if_neg (show ¬ bIn 11 0 5 = true by decide), if_neg (show ¬ (11 : Int32) = 6 by decide), if_neg (show ¬ (11 : Int32) = 7 by decide), if_neg (show ¬ (11 : Int32) = 8 by decide), if_neg (show ¬ bIn 11 12 14 = true by decide)]
      exact ⟨rfl, hN, hT, Same.rf⟩
    refine aw_tsw (v := 12) (tgt := 173) eX6_of_16 (by decide) (by decide) rfl (by decide) (fun c_16 => ?_) (fun n_16_12 => ?_)
    · refine aw_aload_n (pc' := 174) eX6_of_173 rfl rfl trivial ?_
      refine aw_Oget (pc' := 177) (ci := 6) (kf := 1) (N := 14) (.ref 27) hO eX6_of_174 rfl rfl rfl inX6 (by decide) q251 rfl ?_
      refine aw_aload_n (pc' := 178) eX6_of_177 rfl rfl trivial ?_
      refine aw_Oget (pc' := 181) (ci := 6) (kf := 0) (N := 14) (.ref 17) hO eX6_of_178 rfl rfl rfl inX6 (by decide) q250 rfl ?_
      refine aw_callv (pc' := 184) (nn := 1) (c_X5_becomes (d := d - 1) hN hT (by omega) (by omega) (by omega)) eX6_of_181 rfl ⟨q332, q335, q56⟩ q333 q334 ⟨rfl, by decide +kernel, by decide +kernel, by decide +kernel⟩ rfl hT.ob rfl ⟨by omega, by decide⟩ ⟨by omega, by omega⟩ rfl (Nat.le_of_ble_eq_true rfl) (fun v30 h31 hq32 => ?_)
      obtain ⟨rfl, hW28, hs29⟩ := hq32
      have hz33 := hs29.w (w2 := 17) (n2 := 20) (by omega) (by omega)
      have hF34 := hO.fr hs29 (by omega)
      have hF35 := hN.fr hs29 (by omega)
      dsimp only [Option.toList, List.cons_append, List.nil_append]
      refine aw_aload_n (pc' := 185) eX6_of_184 rfl rfl trivial ?_
      refine aw_iload_n (pc' := 186) eX6_of_185 rfl rfl ?_
      refine aw_iload_n (pc' := 187) eX6_of_186 rfl rfl ?_
      refine aw_bipush (pc' := 189) (v := 10) eX6_of_187 rfl (by decide) ?_
      refine aw_isub (pc' := 190) eX6_of_189 rfl ?_
      refine aw_callv (pc' := 193) (nn := 2) (c_X6_trialComes (d := d - 1) hF34 hW28 hg hA ht9 (i := b) (by omega) _ (by omega)) eX6_of_190 rfl ⟨q342, q345, q55⟩ q344 q3 ⟨rfl, by decide +kernel, by decide +kernel, by decide +kernel⟩ rfl (by rw [hF34.1]; exact ⟨rfl, rfl⟩) rfl ⟨by omega, by decide⟩ ⟨by omega, by omega⟩ rfl (Nat.le_of_ble_eq_true rfl) (fun v38 h39 hq40 => ?_)
      obtain ⟨rfl, hW36, hs37⟩ := hq40
      have hz41 := hs37.w (w2 := 17) (n2 := 20) (by omega) (by omega)
      have hT42 := hz33.tr hz41
      have hF43 := hF34.fr hs37 (by omega)
      have hF44 := hF35.fr hs37 (by omega)
      dsimp only [Option.toList, List.cons_append, List.nil_append]
      refine aw_ret (v := some (.int _)) eX6_of_193 ⟨rfl, rfl⟩ (by omega) (by omega) rfl ?_
      subst c_16
      rw [sOf, if_pos hb9, if_neg (show ¬ bIn 12 0 5 = true by decide), if_neg (show ¬ (12 : Int32) = 6 by decide), if_neg (show ¬ (12 : Int32) = 7 by decide), if_neg (show ¬ (12 : Int32) = 8 by decide), if_pos (show bIn 12 12 14 = true by decide), clb]
      exact ⟨rfl, hF44, hW36, hT42⟩
    refine aw_tsw (v := 13) (tgt := 173) eX6_of_16 (by decide) (by decide) rfl (by decide) (fun c_16 => ?_) (fun n_16_13 => ?_)
    · refine aw_aload_n (pc' := 174) eX6_of_173 rfl rfl trivial ?_
      refine aw_Oget (pc' := 177) (ci := 6) (kf := 1) (N := 14) (.ref 27) hO eX6_of_174 rfl rfl rfl inX6 (by decide) q251 rfl ?_
      refine aw_aload_n (pc' := 178) eX6_of_177 rfl rfl trivial ?_
      refine aw_Oget (pc' := 181) (ci := 6) (kf := 0) (N := 14) (.ref 17) hO eX6_of_178 rfl rfl rfl inX6 (by decide) q250 rfl ?_
      refine aw_callv (pc' := 184) (nn := 1) (c_X5_becomes (d := d - 1) hN hT (by omega) (by omega) (by omega)) eX6_of_181 rfl ⟨q332, q335, q56⟩ q333 q334 ⟨rfl, by decide +kernel, by decide +kernel, by decide +kernel⟩ rfl hT.ob rfl ⟨by omega, by decide⟩ ⟨by omega, by omega⟩ rfl (Nat.le_of_ble_eq_true rfl) (fun v47 h48 hq49 => ?_)
      obtain ⟨rfl, hW45, hs46⟩ := hq49
      have hz50 := hs46.w (w2 := 17) (n2 := 20) (by omega) (by omega)
      have hF51 := hO.fr hs46 (by omega)
      have hF52 := hN.fr hs46 (by omega)
      dsimp only [Option.toList, List.cons_append, List.nil_append]
      refine aw_aload_n (pc' := 185) eX6_of_184 rfl rfl trivial ?_
      refine aw_iload_n (pc' := 186) eX6_of_185 rfl rfl ?_
      refine aw_iload_n (pc' := 187) eX6_of_186 rfl rfl ?_
      refine aw_bipush (pc' := 189) (v := 10) eX6_of_187 rfl (by decide) ?_
      refine aw_isub (pc' := 190) eX6_of_189 rfl ?_
      refine aw_callv (pc' := 193) (nn := 2) (c_X6_trialComes (d := d - 1) hF51 hW45 hg hA ht9 (i := b) (by omega) _ (by omega)) eX6_of_190 rfl ⟨q342, q345, q55⟩ q344 q3 ⟨rfl, by decide +kernel, by decide +kernel, by decide +kernel⟩ rfl (by rw [hF51.1]; exact ⟨rfl, rfl⟩) rfl ⟨by omega, by decide⟩ ⟨by omega, by omega⟩ rfl (Nat.le_of_ble_eq_true rfl) (fun v55 h56 hq57 => ?_)
      obtain ⟨rfl, hW53, hs54⟩ := hq57
      have hz58 := hs54.w (w2 := 17) (n2 := 20) (by omega) (by omega)
      have hT59 := hz50.tr hz58
      have hF60 := hF51.fr hs54 (by omega)
      have hF61 := hF52.fr hs54 (by omega)
      dsimp only [Option.toList, List.cons_append, List.nil_append]
      refine aw_ret (v := some (.int _)) eX6_of_193 ⟨rfl, rfl⟩ (by omega) (by omega) rfl ?_
      subst c_16
      rw [sOf, if_pos hb9, if_neg (show ¬ bIn 13 0 5 = true by decide), if_neg (show ¬ (13 : Int32) = 6 by decide), if_neg (show ¬ (13 : Int32) = 7 by decide), if_neg (show ¬ (13 : Int32) = 8 by decide), if_pos (show bIn 13 12 14 = true by decide), clb]
      exact ⟨rfl, hF61, hW53, hT59⟩
    refine aw_tsw (v := 14) (tgt := 173) eX6_of_16 (by decide) (by decide) rfl (by decide) (fun c_16 => ?_) (fun n_16_14 => ?_)
    · refine aw_aload_n (pc' := 174) eX6_of_173 rfl rfl trivial ?_
      refine aw_Oget (pc' := 177) (ci := 6) (kf := 1) (N := 14) (.ref 27) hO eX6_of_174 rfl rfl rfl inX6 (by decide) q251 rfl ?_
      refine aw_aload_n (pc' := 178) eX6_of_177 rfl rfl trivial ?_
      refine aw_Oget (pc' := 181) (ci := 6) (kf := 0) (N := 14) (.ref 17) hO eX6_of_178 rfl rfl rfl inX6 (by decide) q250 rfl ?_
      refine aw_callv (pc' := 184) (nn := 1) (c_X5_becomes (d := d - 1) hN hT (by omega) (by omega) (by omega)) eX6_of_181 rfl ⟨q332, q335, q56⟩ q333 q334 ⟨rfl, by decide +kernel, by decide +kernel, by decide +kernel⟩ rfl hT.ob rfl ⟨by omega, by decide⟩ ⟨by omega, by omega⟩ rfl (Nat.le_of_ble_eq_true rfl) (fun v64 h65 hq66 => ?_)
      obtain ⟨rfl, hW62, hs63⟩ := hq66
      have hz67 := hs63.w (w2 := 17) (n2 := 20) (by omega) (by omega)
      have hF68 := hO.fr hs63 (by omega)
      have hF69 := hN.fr hs63 (by omega)
      dsimp only [Option.toList, List.cons_append, List.nil_append]
      refine aw_aload_n (pc' := 185) eX6_of_184 rfl rfl trivial ?_
      refine aw_iload_n (pc' := 186) eX6_of_185 rfl rfl ?_
      refine aw_iload_n (pc' := 187) eX6_of_186 rfl rfl ?_
      refine aw_bipush (pc' := 189) (v := 10) eX6_of_187 rfl (by decide) ?_
      refine aw_isub (pc' := 190) eX6_of_189 rfl ?_
      refine aw_callv (pc' := 193) (nn := 2) (c_X6_trialComes (d := d - 1) hF68 hW62 hg hA ht9 (i := b) (by omega) _ (by omega)) eX6_of_190 rfl ⟨q342, q345, q55⟩ q344 q3 ⟨rfl, by decide +kernel, by decide +kernel, by decide +kernel⟩ rfl (by rw [hF68.1]; exact ⟨rfl, rfl⟩) rfl ⟨by omega, by decide⟩ ⟨by omega, by omega⟩ rfl (Nat.le_of_ble_eq_true rfl) (fun v72 h73 hq74 => ?_)
      obtain ⟨rfl, hW70, hs71⟩ := hq74
      have hz75 := hs71.w (w2 := 17) (n2 := 20) (by omega) (by omega)
      have hT76 := hz67.tr hz75
      have hF77 := hF68.fr hs71 (by omega)
      have hF78 := hF69.fr hs71 (by omega)
      dsimp only [Option.toList, List.cons_append, List.nil_append]
      refine aw_ret (v := some (.int _)) eX6_of_193 ⟨rfl, rfl⟩ (by omega) (by omega) rfl ?_
      subst c_16
      rw [sOf, if_pos hb9, if_neg (show ¬ bIn 14 0 5 = true by decide), if_neg (show ¬ (14 : Int32) = 6 by decide), if_neg (show ¬ (14 : Int32) = 7 by decide), if_neg (show ¬ (14 : Int32) = 8 by decide), if_pos (show bIn 14 12 14 = true by decide), clb]
      exact ⟨rfl, hF78, hW70, hT76⟩
    refine aw_tswo (tgt := 194) eX6_of_16 (by have g0 := zne n_16_0 (show ((0 : Int32)).toInt = 0 by decide); have g1 := zne n_16_1 (show ((1 : Int32)).toInt = 1 by decide); have g2 := zne n_16_2 (show ((2 : Int32)).toInt = 2 by decide); have g3 := zne n_16_3 (show ((3 : Int32)).toInt = 3 by decide); have g4 := zne n_16_4 (show ((4 : Int32)).toInt = 4 by decide); have g5 := zne n_16_5 (show ((5 : Int32)).toInt = 5 by decide); have g6 := zne n_16_6 (show ((6 : Int32)).toInt = 6 by decide); have g7 := zne n_16_7 (show ((7 : Int32)).toInt = 7 by decide); have g8 := zne n_16_8 (show ((8 : Int32)).toInt = 8 by decide); have g9 := zne n_16_9 (show ((9 : Int32)).toInt = 9 by decide); have g10 := zne n_16_10 (show ((10 : Int32)).toInt = 10 by decide); have g11 := zne n_16_11 (show ((11 : Int32)).toInt = 11 by decide); have g12 := zne n_16_12 (show ((12 : Int32)).toInt = 12 by decide); have g13 := zne n_16_13 (show ((13 : Int32)).toInt = 13 by decide); have g14 := zne n_16_14 (show ((14 : Int32)).toInt = 14 by decide); omega) (by decide) ?_
    refine aw_sipush (pc' := 197) (v := -10001) eX6_of_194 rfl (by decide) ?_
    refine aw_ret (v := some (.int _)) eX6_of_197 ⟨rfl, rfl⟩ (by omega) (by omega) rfl ?_
    obtain ⟨q1, q2, q3⟩ := of_no n_16_0 n_16_1 n_16_2 n_16_3 n_16_4 n_16_5 n_16_12 n_16_13 n_16_14
    rw [sOf, if_pos hb9, if_neg (by rw [q1]; decide), if_neg n_16_6, if_neg n_16_7, if_neg n_16_8, if_neg (by rw [q2]; decide)]
    exact ⟨rfl, hN, hT, Same.rf⟩
  · refine aw_sipush (pc' := 14) (v := -10001) eX6_of_11 rfl (by decide) ?_
    refine aw_ret (v := some (.int _)) eX6_of_14 ⟨rfl, rfl⟩ (by omega) (by omega) rfl ?_
    rw [sOf, if_neg (by rw [(zb_eq0.mp c_8)]; decide)]
    exact ⟨rfl, hN, hT, Same.rf⟩
abbrev mX6_on : MT := (RX6, cX6_on, 4, (some .int), false)
theorem eX6_on_0 : decode mX6_on.2.1 0 = .ok (.iload_n 2, 1) := by decide +kernel
theorem eX6_on_1 : decode mX6_on.2.1 1 = .ok (.bipush 20, 2) := by decide +kernel
theorem eX6_on_3 : decode mX6_on.2.1 3 = .ok (.if_icmp .lt 10, 3) := by decide +kernel
theorem eX6_on_6 : decode mX6_on.2.1 6 = .ok (.iload_n 2, 1) := by decide +kernel
theorem eX6_on_7 : decode mX6_on.2.1 7 = .ok (.bipush 20, 2) := by decide +kernel
theorem eX6_on_9 : decode mX6_on.2.1 9 = .ok (.isub, 1) := by decide +kernel
theorem eX6_on_10 : decode mX6_on.2.1 10 = .ok (.goto 7, 3) := by decide +kernel
theorem eX6_on_13 : decode mX6_on.2.1 13 = .ok (.iload_n 2, 1) := by decide +kernel
theorem eX6_on_14 : decode mX6_on.2.1 14 = .ok (.bipush 10, 2) := by decide +kernel
theorem eX6_on_16 : decode mX6_on.2.1 16 = .ok (.isub, 1) := by decide +kernel
theorem eX6_on_17 : decode mX6_on.2.1 17 = .ok (.istore_n 3, 1) := by decide +kernel
theorem eX6_on_18 : decode mX6_on.2.1 18 = .ok (.iload_n 2, 1) := by decide +kernel
theorem eX6_on_19 : decode mX6_on.2.1 19 = .ok (.ifCond .eq 16, 3) := by decide +kernel
theorem eX6_on_22 : decode mX6_on.2.1 22 = .ok (.aload_n 0, 1) := by decide +kernel
theorem eX6_on_23 : decode mX6_on.2.1 23 = .ok (.getfield 16, 3) := by decide +kernel
theorem eX6_on_26 : decode mX6_on.2.1 26 = .ok (.iload_n 3, 1) := by decide +kernel
theorem eX6_on_27 : decode mX6_on.2.1 27 = .ok (.invokevirtual 85, 3) := by decide +kernel
theorem eX6_on_30 : decode mX6_on.2.1 30 = .ok (.ifCond .ne 5, 3) := by decide +kernel
theorem eX6_on_33 : decode mX6_on.2.1 33 = .ok (.iconst (-1), 1) := by decide +kernel
theorem eX6_on_34 : decode mX6_on.2.1 34 = .ok (.ireturn, 1) := by decide +kernel
theorem eX6_on_35 : decode mX6_on.2.1 35 = .ok (.iload_n 1, 1) := by decide +kernel
theorem eX6_on_36 : decode mX6_on.2.1 36 = .ok (.ifCond .lt 9, 3) := by decide +kernel
theorem eX6_on_39 : decode mX6_on.2.1 39 = .ok (.iload_n 1, 1) := by decide +kernel
theorem eX6_on_40 : decode mX6_on.2.1 40 = .ok (.bipush 60, 2) := by decide +kernel
theorem eX6_on_42 : decode mX6_on.2.1 42 = .ok (.if_icmp .le 6, 3) := by decide +kernel
theorem eX6_on_45 : decode mX6_on.2.1 45 = .ok (.bipush (-2), 2) := by decide +kernel
theorem eX6_on_47 : decode mX6_on.2.1 47 = .ok (.ireturn, 1) := by decide +kernel
theorem eX6_on_48 : decode mX6_on.2.1 48 = .ok (.aload_n 0, 1) := by decide +kernel
theorem eX6_on_49 : decode mX6_on.2.1 49 = .ok (.getfield 21, 3) := by decide +kernel
theorem eX6_on_52 : decode mX6_on.2.1 52 = .ok (.aload_n 0, 1) := by decide +kernel
theorem eX6_on_53 : decode mX6_on.2.1 53 = .ok (.getfield 16, 3) := by decide +kernel
theorem eX6_on_56 : decode mX6_on.2.1 56 = .ok (.invokevirtual 118, 3) := by decide +kernel
theorem eX6_on_59 : decode mX6_on.2.1 59 = .ok (.aload_n 0, 1) := by decide +kernel
theorem eX6_on_60 : decode mX6_on.2.1 60 = .ok (.getfield 21, 3) := by decide +kernel
theorem eX6_on_63 : decode mX6_on.2.1 63 = .ok (.iload_n 1, 1) := by decide +kernel
theorem eX6_on_64 : decode mX6_on.2.1 64 = .ok (.invokevirtual 179, 3) := by decide +kernel
theorem eX6_on_67 : decode mX6_on.2.1 67 = .ok (.iload_n 2, 1) := by decide +kernel
theorem eX6_on_68 : decode mX6_on.2.1 68 = .ok (.ifCond .ne 11, 3) := by decide +kernel
theorem eX6_on_71 : decode mX6_on.2.1 71 = .ok (.aload_n 0, 1) := by decide +kernel
theorem eX6_on_72 : decode mX6_on.2.1 72 = .ok (.getfield 21, 3) := by decide +kernel
theorem eX6_on_75 : decode mX6_on.2.1 75 = .ok (.invokevirtual 173, 3) := by decide +kernel
theorem eX6_on_78 : decode mX6_on.2.1 78 = .ok (.ireturn, 1) := by decide +kernel
theorem eX6_on_79 : decode mX6_on.2.1 79 = .ok (.iload_n 2, 1) := by decide +kernel
theorem eX6_on_80 : decode mX6_on.2.1 80 = .ok (.bipush 20, 2) := by decide +kernel
theorem eX6_on_82 : decode mX6_on.2.1 82 = .ok (.if_icmp .lt 15, 3) := by decide +kernel
theorem eX6_on_85 : decode mX6_on.2.1 85 = .ok (.aload_n 0, 1) := by decide +kernel
theorem eX6_on_86 : decode mX6_on.2.1 86 = .ok (.getfield 21, 3) := by decide +kernel
theorem eX6_on_89 : decode mX6_on.2.1 89 = .ok (.getfield 105, 3) := by decide +kernel
theorem eX6_on_92 : decode mX6_on.2.1 92 = .ok (.iload_n 3, 1) := by decide +kernel
theorem eX6_on_93 : decode mX6_on.2.1 93 = .ok (.iaload, 1) := by decide +kernel
theorem eX6_on_94 : decode mX6_on.2.1 94 = .ok (.goto 12, 3) := by decide +kernel
theorem eX6_on_97 : decode mX6_on.2.1 97 = .ok (.aload_n 0, 1) := by decide +kernel
theorem eX6_on_98 : decode mX6_on.2.1 98 = .ok (.getfield 21, 3) := by decide +kernel
theorem eX6_on_101 : decode mX6_on.2.1 101 = .ok (.getfield 99, 3) := by decide +kernel
theorem eX6_on_104 : decode mX6_on.2.1 104 = .ok (.iload_n 3, 1) := by decide +kernel
theorem eX6_on_105 : decode mX6_on.2.1 105 = .ok (.iaload, 1) := by decide +kernel
theorem eX6_on_106 : decode mX6_on.2.1 106 = .ok (.ireturn, 1) := by decide +kernel
theorem c_X6_on (hO : OA h 16 (.inr (6, afs bi se))) (hN : WF F h 17 g (nI 9999)) (hT : DT h 27 (nI 2147483647)) (hg : gOk g m t) (hA : gAge g m t) (ht9 : t ≤ 20000) (n w : Int32) (hd : 8 ≤ d) : Ct l G mX6_on yX6_on d 0 0 [.ref 16, .int n, .int w] h (fun r h' => r = some (.int (sOn F g m t n w)) ∧ DT h' 27 (nI 2147483647) ∧ Same 27 10 h h') := by
  refine ct_of (lv := [some (.ref 16), some (.int n), some (.int w), none]) (by decide +kernel) rfl (fun z => by cases z) (fun _ => rfl) (fun _ => Nat.le_of_ble_eq_true rfl) ?_
  have hgg := hg
  obtain ⟨hm, hm6, ht, ht2, hgq⟩ := hgg
  refine aw_iload_n (pc' := 1) eX6_on_0 rfl rfl ?_
  refine aw_bipush (pc' := 3) (v := 20) eX6_on_1 rfl (by decide) ?_
  refine aw_icmp_lt (pc' := 6) (tgt := 13) eX6_on_3 rfl (by decide) (fun c_3 => ?_) (fun c_3 => ?_)
  · refine aw_iload_n (pc' := 14) eX6_on_13 rfl rfl ?_
    refine aw_bipush (pc' := 16) (v := 10) eX6_on_14 rfl (by decide) ?_
    refine aw_isub (pc' := 17) eX6_on_16 rfl ?_
    refine aw_istore_n (pc' := 18) eX6_on_17 rfl (by decide) ?_
    dsimp only [zst, zst2, zcut]
    refine aw_iload_n (pc' := 19) eX6_on_18 rfl rfl ?_
    refine aw_if_eq (pc' := 22) (tgt := 35) eX6_on_19 rfl (by decide) (fun c_19 => ?_) (fun c_19 => ?_)
    · have hm9 := hm
      refine aw_iload_n (pc' := 36) eX6_on_35 rfl rfl ?_
      refine aw_if_lt (pc' := 39) (tgt := 45) eX6_on_36 rfl (by decide) (fun c_36 => ?_) (fun c_36 => ?_)
      · refine aw_bipush (pc' := 47) (v := -2) eX6_on_45 rfl (by decide) ?_
        refine aw_ret (v := some (.int _)) eX6_on_47 ⟨rfl, rfl⟩ (by omega) (by omega) rfl ?_
        rw [sOn, if_pos (Or.inl c_19), if_neg (by rw [(bI_f1 c_36)]; decide)]
        exact ⟨rfl, hT, Same.rf⟩
      · refine aw_iload_n (pc' := 40) eX6_on_39 rfl rfl ?_
        refine aw_bipush (pc' := 42) (v := 60) eX6_on_40 rfl (by decide) ?_
        refine aw_icmp_le (pc' := 45) (tgt := 48) eX6_on_42 rfl (by decide) (fun c_42 => ?_) (fun c_42 => ?_)
        · have hn9 := bI_tle c_36 c_42
          obtain ⟨x, hx, rfl⟩ := (bIn_lit (N := 60) (by omega)).mp (show bIn n 0 (nI 60) = true from hn9)
          have clx : (nI x).toNatClampNeg = x := nI_clamp (by omega)
          have hk60 : sDys F m x t g 60 = nI m := (sDys_hi hm6 (by omega) (by decide) (by decide) x t g).trans hm
          refine aw_aload_n (pc' := 49) eX6_on_48 rfl rfl trivial ?_
          refine aw_Oget (pc' := 52) (ci := 6) (kf := 1) (N := 14) (.ref 27) hO eX6_on_49 rfl rfl rfl inX6 (by decide) q251 rfl ?_
          refine aw_aload_n (pc' := 53) eX6_on_52 rfl rfl trivial ?_
          refine aw_Oget (pc' := 56) (ci := 6) (kf := 0) (N := 14) (.ref 17) hO eX6_on_53 rfl rfl rfl inX6 (by decide) q250 rfl ?_
          refine aw_callv (pc' := 59) (nn := 1) (c_X5_becomes (d := d - 1) hN hT (by omega) (by omega) (by omega)) eX6_on_56 rfl ⟨q332, q335, q56⟩ q333 q334 ⟨rfl, by decide +kernel, by decide +kernel, by decide +kernel⟩ rfl hT.ob rfl ⟨by omega, by decide⟩ ⟨by omega, by omega⟩ rfl (Nat.le_of_ble_eq_true rfl) (fun v3 h4 hq5 => ?_)
          obtain ⟨rfl, hW1, hs2⟩ := hq5
          have hF6 := hO.fr hs2 (by omega)
          have hF7 := hN.fr hs2 (by omega)
          dsimp only [Option.toList, List.cons_append, List.nil_append]
          refine aw_aload_n (pc' := 60) eX6_on_59 rfl rfl trivial ?_
          refine aw_Oget (pc' := 63) (ci := 6) (kf := 1) (N := 14) (.ref 27) hF6 eX6_on_60 rfl rfl rfl inX6 (by decide) q251 rfl ?_
          refine aw_iload_n (pc' := 64) eX6_on_63 rfl rfl ?_
          refine aw_callv (pc' := 67) (nn := 1) (c_X5_daysGo (d := d - 1) hW1 hg hA (x := x) (by omega) (by omega) (by omega) (by omega) (by omega)) eX6_on_64 rfl ⟨q604, q607, q56⟩ q605 q606 ⟨rfl, by decide +kernel, by decide +kernel, by decide +kernel⟩ rfl hW1.ob rfl ⟨by omega, by decide⟩ ⟨by omega, by omega⟩ rfl (Nat.le_of_ble_eq_true rfl) (fun v10 h11 hq12 => ?_)
          obtain ⟨rfl, hW8, hs9⟩ := hq12
          have hT13 := hs2.tr hs9
          have hF14 := hF6.fr hs9 (by omega)
          have hF15 := hF7.fr hs9 (by omega)
          dsimp only [Option.toList, List.cons_append, List.nil_append]
          refine aw_iload_n (pc' := 68) eX6_on_67 rfl rfl ?_
          refine aw_if_ne (pc' := 71) (tgt := 79) eX6_on_68 rfl (by decide) (fun c_68 => ?_) (fun c_68 => ?_)
          · exact absurd c_19 c_68
          · refine aw_aload_n (pc' := 72) eX6_on_71 rfl rfl trivial ?_
            refine aw_Oget (pc' := 75) (ci := 6) (kf := 1) (N := 14) (.ref 27) hF14 eX6_on_72 rfl rfl rfl inX6 (by decide) q251 rfl ?_
            refine aw_callv (pc' := 78) (nn := 0) (c_X5_howManyFound (d := d - 1) hW8 (m := m) hk60 hm6 (by omega)) eX6_on_75 rfl ⟨q592, q595, q56⟩ q593 q594 ⟨rfl, by decide +kernel, by decide +kernel, by decide +kernel⟩ rfl hW8.ob rfl ⟨by omega, by decide⟩ ⟨by omega, by omega⟩ rfl (Nat.le_of_ble_eq_true rfl) (fun v16 h17 hq18 => ?_)
            obtain ⟨rfl, rfl⟩ := hq18
            dsimp only [Option.toList, List.cons_append, List.nil_append]
            refine aw_ret (v := some (.int _)) eX6_on_78 ⟨rfl, rfl⟩ (by omega) (by omega) rfl ?_
            rw [sOn, if_pos (Or.inl c_19), if_pos hn9, clx, sOnV, if_pos c_68]
            exact ⟨rfl, (hW8).dt, hT13⟩
        · refine aw_bipush (pc' := 47) (v := -2) eX6_on_45 rfl (by decide) ?_
          refine aw_ret (v := some (.int _)) eX6_on_47 ⟨rfl, rfl⟩ (by omega) (by omega) rfl ?_
          rw [sOn, if_pos (Or.inl c_19), if_neg (by rw [(bI_fle c_42)]; decide)]
          exact ⟨rfl, hT, Same.rf⟩
    · refine aw_aload_n (pc' := 23) eX6_on_22 rfl rfl trivial ?_
      refine aw_Oget (pc' := 26) (ci := 6) (kf := 0) (N := 14) (.ref 17) hO eX6_on_23 rfl rfl rfl inX6 (by decide) q250 rfl ?_
      refine aw_iload_n (pc' := 27) eX6_on_26 rfl rfl ?_
      refine aw_callv (pc' := 30) (nn := 1) (c_X5_has (d := d - 1) hN hm hm6 _ (by omega)) eX6_on_27 rfl ⟨q305, q308, q56⟩ q306 q307 ⟨rfl, by decide +kernel, by decide +kernel, by decide +kernel⟩ rfl hN.ob rfl ⟨by omega, by decide⟩ ⟨by omega, by omega⟩ rfl (Nat.le_of_ble_eq_true rfl) (fun v19 h20 hq21 => ?_)
      obtain ⟨rfl, rfl⟩ := hq21
      dsimp only [Option.toList, List.cons_append, List.nil_append]
      refine aw_if_ne (pc' := 33) (tgt := 35) eX6_on_30 rfl (by decide) (fun c_30 => ?_) (fun c_30 => ?_)
      · have hb9 := zb_ne0.mp c_30
        obtain ⟨b, hb, eb⟩ := (bIn_one hm6).mp hb9
        have clb : (nI b).toNatClampNeg = b := nI_clamp (by omega)
        rw [eb]
        refine aw_iload_n (pc' := 36) eX6_on_35 rfl rfl ?_
        refine aw_if_lt (pc' := 39) (tgt := 45) eX6_on_36 rfl (by decide) (fun c_36 => ?_) (fun c_36 => ?_)
        · refine aw_bipush (pc' := 47) (v := -2) eX6_on_45 rfl (by decide) ?_
          refine aw_ret (v := some (.int _)) eX6_on_47 ⟨rfl, rfl⟩ (by omega) (by omega) rfl ?_
          rw [sOn, if_pos (Or.inr (Or.inl hb9)), if_neg (by rw [(bI_f1 c_36)]; decide)]
          exact ⟨rfl, hT, Same.rf⟩
        · refine aw_iload_n (pc' := 40) eX6_on_39 rfl rfl ?_
          refine aw_bipush (pc' := 42) (v := 60) eX6_on_40 rfl (by decide) ?_
          refine aw_icmp_le (pc' := 45) (tgt := 48) eX6_on_42 rfl (by decide) (fun c_42 => ?_) (fun c_42 => ?_)
          · have hn9 := bI_tle c_36 c_42
            obtain ⟨x, hx, rfl⟩ := (bIn_lit (N := 60) (by omega)).mp (show bIn n 0 (nI 60) = true from hn9)
            have clx : (nI x).toNatClampNeg = x := nI_clamp (by omega)
            have hk60 : sDys F m x t g 60 = nI m := (sDys_hi hm6 (by omega) (by decide) (by decide) x t g).trans hm
            refine aw_aload_n (pc' := 49) eX6_on_48 rfl rfl trivial ?_
            refine aw_Oget (pc' := 52) (ci := 6) (kf := 1) (N := 14) (.ref 27) hO eX6_on_49 rfl rfl rfl inX6 (by decide) q251 rfl ?_
            refine aw_aload_n (pc' := 53) eX6_on_52 rfl rfl trivial ?_
            refine aw_Oget (pc' := 56) (ci := 6) (kf := 0) (N := 14) (.ref 17) hO eX6_on_53 rfl rfl rfl inX6 (by decide) q250 rfl ?_
            refine aw_callv (pc' := 59) (nn := 1) (c_X5_becomes (d := d - 1) hN hT (by omega) (by omega) (by omega)) eX6_on_56 rfl ⟨q332, q335, q56⟩ q333 q334 ⟨rfl, by decide +kernel, by decide +kernel, by decide +kernel⟩ rfl hT.ob rfl ⟨by omega, by decide⟩ ⟨by omega, by omega⟩ rfl (Nat.le_of_ble_eq_true rfl) (fun v24 h25 hq26 => ?_)
            obtain ⟨rfl, hW22, hs23⟩ := hq26
            have hF27 := hO.fr hs23 (by omega)
            have hF28 := hN.fr hs23 (by omega)
            dsimp only [Option.toList, List.cons_append, List.nil_append]
            refine aw_aload_n (pc' := 60) eX6_on_59 rfl rfl trivial ?_
            refine aw_Oget (pc' := 63) (ci := 6) (kf := 1) (N := 14) (.ref 27) hF27 eX6_on_60 rfl rfl rfl inX6 (by decide) q251 rfl ?_
            refine aw_iload_n (pc' := 64) eX6_on_63 rfl rfl ?_
            refine aw_callv (pc' := 67) (nn := 1) (c_X5_daysGo (d := d - 1) hW22 hg hA (x := x) (by omega) (by omega) (by omega) (by omega) (by omega)) eX6_on_64 rfl ⟨q604, q607, q56⟩ q605 q606 ⟨rfl, by decide +kernel, by decide +kernel, by decide +kernel⟩ rfl hW22.ob rfl ⟨by omega, by decide⟩ ⟨by omega, by omega⟩ rfl (Nat.le_of_ble_eq_true rfl) (fun v31 h32 hq33 => ?_)
            obtain ⟨rfl, hW29, hs30⟩ := hq33
            have hT34 := hs23.tr hs30
            have hF35 := hF27.fr hs30 (by omega)
            have hF36 := hF28.fr hs30 (by omega)
            dsimp only [Option.toList, List.cons_append, List.nil_append]
            refine aw_iload_n (pc' := 68) eX6_on_67 rfl rfl ?_
            refine aw_if_ne (pc' := 71) (tgt := 79) eX6_on_68 rfl (by decide) (fun c_68 => ?_) (fun c_68 => ?_)
            · refine aw_iload_n (pc' := 80) eX6_on_79 rfl rfl ?_
              refine aw_bipush (pc' := 82) (v := 20) eX6_on_80 rfl (by decide) ?_
              refine aw_icmp_lt (pc' := 85) (tgt := 97) eX6_on_82 rfl (by decide) (fun c_82 => ?_) (fun c_82 => ?_)
              · refine aw_aload_n (pc' := 98) eX6_on_97 rfl rfl trivial ?_
                refine aw_Oget (pc' := 101) (ci := 6) (kf := 1) (N := 14) (.ref 27) hF35 eX6_on_98 rfl rfl rfl inX6 (by decide) q251 rfl ?_
                refine aw_Fref (pc' := 104) (kf := 4) hW29 eX6_on_101 rfl (by decide) q105 ?_
                refine aw_iload_n (pc' := 105) eX6_on_104 rfl rfl ?_
                refine aw_Fld (pc' := 106) 4 3 b hW29 eX6_on_105 rfl (by decide) rfl (show vp_in _ 6 from vp_in_nI (by omega) (by omega)) (nI_clamp (by omega)) ?_
                refine aw_ret (v := some (.int _)) eX6_on_106 ⟨rfl, rfl⟩ (by omega) (by omega) rfl ?_
                rw [sOn, if_pos (Or.inr (Or.inl hb9)), if_pos hn9, clx, sOnV, if_neg c_68, if_pos c_82, eb, clb]
                exact ⟨rfl, (hW29).dt, hT34⟩
              · exact absurd c_3 c_82
            · exact absurd c_68 c_19
          · refine aw_bipush (pc' := 47) (v := -2) eX6_on_45 rfl (by decide) ?_
            refine aw_ret (v := some (.int _)) eX6_on_47 ⟨rfl, rfl⟩ (by omega) (by omega) rfl ?_
            rw [sOn, if_pos (Or.inr (Or.inl hb9)), if_neg (by rw [(bI_fle c_42)]; decide)]
            exact ⟨rfl, hT, Same.rf⟩
      · refine aw_iconst (pc' := 34) (v := -1) eX6_on_33 rfl (by decide) ?_
        refine aw_ret (v := some (.int _)) eX6_on_34 ⟨rfl, rfl⟩ (by omega) (by omega) rfl ?_
        rw [sOn, if_neg (fun z => z.elim c_19 (fun z => z.elim (fun z => by rw [zb_eq0.mp c_30] at z; exact absurd z (by decide)) (fun z => by rw [on_lo hm6 c_3] at z; exact absurd z (by decide))))]
        exact ⟨rfl, hT, Same.rf⟩
  · refine aw_iload_n (pc' := 7) eX6_on_6 rfl rfl ?_
    refine aw_bipush (pc' := 9) (v := 20) eX6_on_7 rfl (by decide) ?_
    refine aw_isub (pc' := 10) eX6_on_9 rfl ?_
    refine aw_goto eX6_on_10 (by decide) (tgt := 17) ?_
    refine aw_istore_n (pc' := 18) eX6_on_17 rfl (by decide) ?_
    dsimp only [zst, zst2, zcut]
    refine aw_iload_n (pc' := 19) eX6_on_18 rfl rfl ?_
    refine aw_if_eq (pc' := 22) (tgt := 35) eX6_on_19 rfl (by decide) (fun c_19 => ?_) (fun c_19 => ?_)
    · have hm9 := hm
      refine aw_iload_n (pc' := 36) eX6_on_35 rfl rfl ?_
      refine aw_if_lt (pc' := 39) (tgt := 45) eX6_on_36 rfl (by decide) (fun c_36 => ?_) (fun c_36 => ?_)
      · refine aw_bipush (pc' := 47) (v := -2) eX6_on_45 rfl (by decide) ?_
        refine aw_ret (v := some (.int _)) eX6_on_47 ⟨rfl, rfl⟩ (by omega) (by omega) rfl ?_
        rw [sOn, if_pos (Or.inl c_19), if_neg (by rw [(bI_f1 c_36)]; decide)]
        exact ⟨rfl, hT, Same.rf⟩
      · refine aw_iload_n (pc' := 40) eX6_on_39 rfl rfl ?_
        refine aw_bipush (pc' := 42) (v := 60) eX6_on_40 rfl (by decide) ?_
        refine aw_icmp_le (pc' := 45) (tgt := 48) eX6_on_42 rfl (by decide) (fun c_42 => ?_) (fun c_42 => ?_)
        · have hn9 := bI_tle c_36 c_42
          obtain ⟨x, hx, rfl⟩ := (bIn_lit (N := 60) (by omega)).mp (show bIn n 0 (nI 60) = true from hn9)
          have clx : (nI x).toNatClampNeg = x := nI_clamp (by omega)
          have hk60 : sDys F m x t g 60 = nI m := (sDys_hi hm6 (by omega) (by decide) (by decide) x t g).trans hm
          refine aw_aload_n (pc' := 49) eX6_on_48 rfl rfl trivial ?_
          refine aw_Oget (pc' := 52) (ci := 6) (kf := 1) (N := 14) (.ref 27) hO eX6_on_49 rfl rfl rfl inX6 (by decide) q251 rfl ?_
          refine aw_aload_n (pc' := 53) eX6_on_52 rfl rfl trivial ?_
          refine aw_Oget (pc' := 56) (ci := 6) (kf := 0) (N := 14) (.ref 17) hO eX6_on_53 rfl rfl rfl inX6 (by decide) q250 rfl ?_
          refine aw_callv (pc' := 59) (nn := 1) (c_X5_becomes (d := d - 1) hN hT (by omega) (by omega) (by omega)) eX6_on_56 rfl ⟨q332, q335, q56⟩ q333 q334 ⟨rfl, by decide +kernel, by decide +kernel, by decide +kernel⟩ rfl hT.ob rfl ⟨by omega, by decide⟩ ⟨by omega, by omega⟩ rfl (Nat.le_of_ble_eq_true rfl) (fun v39 h40 hq41 => ?_)
          obtain ⟨rfl, hW37, hs38⟩ := hq41
          have hF42 := hO.fr hs38 (by omega)
          have hF43 := hN.fr hs38 (by omega)
          dsimp only [Option.toList, List.cons_append, List.nil_append]
          refine aw_aload_n (pc' := 60) eX6_on_59 rfl rfl trivial ?_
          refine aw_Oget (pc' := 63) (ci := 6) (kf := 1) (N := 14) (.ref 27) hF42 eX6_on_60 rfl rfl rfl inX6 (by decide) q251 rfl ?_
          refine aw_iload_n (pc' := 64) eX6_on_63 rfl rfl ?_
          refine aw_callv (pc' := 67) (nn := 1) (c_X5_daysGo (d := d - 1) hW37 hg hA (x := x) (by omega) (by omega) (by omega) (by omega) (by omega)) eX6_on_64 rfl ⟨q604, q607, q56⟩ q605 q606 ⟨rfl, by decide +kernel, by decide +kernel, by decide +kernel⟩ rfl hW37.ob rfl ⟨by omega, by decide⟩ ⟨by omega, by omega⟩ rfl (Nat.le_of_ble_eq_true rfl) (fun v46 h47 hq48 => ?_)
          obtain ⟨rfl, hW44, hs45⟩ := hq48
          have hT49 := hs38.tr hs45
          have hF50 := hF42.fr hs45 (by omega)
          have hF51 := hF43.fr hs45 (by omega)
          dsimp only [Option.toList, List.cons_append, List.nil_append]
          refine aw_iload_n (pc' := 68) eX6_on_67 rfl rfl ?_
          refine aw_if_ne (pc' := 71) (tgt := 79) eX6_on_68 rfl (by decide) (fun c_68 => ?_) (fun c_68 => ?_)
          · exact absurd c_19 c_68
          · refine aw_aload_n (pc' := 72) eX6_on_71 rfl rfl trivial ?_
            refine aw_Oget (pc' := 75) (ci := 6) (kf := 1) (N := 14) (.ref 27) hF50 eX6_on_72 rfl rfl rfl inX6 (by decide) q251 rfl ?_
            refine aw_callv (pc' := 78) (nn := 0) (c_X5_howManyFound (d := d - 1) hW44 (m := m) hk60 hm6 (by omega)) eX6_on_75 rfl ⟨q592, q595, q56⟩ q593 q594 ⟨rfl, by decide +kernel, by decide +kernel, by decide +kernel⟩ rfl hW44.ob rfl ⟨by omega, by decide⟩ ⟨by omega, by omega⟩ rfl (Nat.le_of_ble_eq_true rfl) (fun v52 h53 hq54 => ?_)
            obtain ⟨rfl, rfl⟩ := hq54
            dsimp only [Option.toList, List.cons_append, List.nil_append]
            refine aw_ret (v := some (.int _)) eX6_on_78 ⟨rfl, rfl⟩ (by omega) (by omega) rfl ?_
            rw [sOn, if_pos (Or.inl c_19), if_pos hn9, clx, sOnV, if_pos c_68]
            exact ⟨rfl, (hW44).dt, hT49⟩
        · refine aw_bipush (pc' := 47) (v := -2) eX6_on_45 rfl (by decide) ?_
          refine aw_ret (v := some (.int _)) eX6_on_47 ⟨rfl, rfl⟩ (by omega) (by omega) rfl ?_
          rw [sOn, if_pos (Or.inl c_19), if_neg (by rw [(bI_fle c_42)]; decide)]
          exact ⟨rfl, hT, Same.rf⟩
    · refine aw_aload_n (pc' := 23) eX6_on_22 rfl rfl trivial ?_
      refine aw_Oget (pc' := 26) (ci := 6) (kf := 0) (N := 14) (.ref 17) hO eX6_on_23 rfl rfl rfl inX6 (by decide) q250 rfl ?_
      refine aw_iload_n (pc' := 27) eX6_on_26 rfl rfl ?_
      refine aw_callv (pc' := 30) (nn := 1) (c_X5_has (d := d - 1) hN hm hm6 _ (by omega)) eX6_on_27 rfl ⟨q305, q308, q56⟩ q306 q307 ⟨rfl, by decide +kernel, by decide +kernel, by decide +kernel⟩ rfl hN.ob rfl ⟨by omega, by decide⟩ ⟨by omega, by omega⟩ rfl (Nat.le_of_ble_eq_true rfl) (fun v55 h56 hq57 => ?_)
      obtain ⟨rfl, rfl⟩ := hq57
      dsimp only [Option.toList, List.cons_append, List.nil_append]
      refine aw_if_ne (pc' := 33) (tgt := 35) eX6_on_30 rfl (by decide) (fun c_30 => ?_) (fun c_30 => ?_)
      · have hb9 := zb_ne0.mp c_30
        obtain ⟨b, hb, eb⟩ := (bIn_one hm6).mp hb9
        have clb : (nI b).toNatClampNeg = b := nI_clamp (by omega)
        rw [eb]
        refine aw_iload_n (pc' := 36) eX6_on_35 rfl rfl ?_
        refine aw_if_lt (pc' := 39) (tgt := 45) eX6_on_36 rfl (by decide) (fun c_36 => ?_) (fun c_36 => ?_)
        · refine aw_bipush (pc' := 47) (v := -2) eX6_on_45 rfl (by decide) ?_
          refine aw_ret (v := some (.int _)) eX6_on_47 ⟨rfl, rfl⟩ (by omega) (by omega) rfl ?_
          rw [sOn, if_pos (Or.inr (Or.inr hb9)), if_neg (by rw [(bI_f1 c_36)]; decide)]
          exact ⟨rfl, hT, Same.rf⟩
        · refine aw_iload_n (pc' := 40) eX6_on_39 rfl rfl ?_
          refine aw_bipush (pc' := 42) (v := 60) eX6_on_40 rfl (by decide) ?_
          refine aw_icmp_le (pc' := 45) (tgt := 48) eX6_on_42 rfl (by decide) (fun c_42 => ?_) (fun c_42 => ?_)
          · have hn9 := bI_tle c_36 c_42
            obtain ⟨x, hx, rfl⟩ := (bIn_lit (N := 60) (by omega)).mp (show bIn n 0 (nI 60) = true from hn9)
            have clx : (nI x).toNatClampNeg = x := nI_clamp (by omega)
            have hk60 : sDys F m x t g 60 = nI m := (sDys_hi hm6 (by omega) (by decide) (by decide) x t g).trans hm
            refine aw_aload_n (pc' := 49) eX6_on_48 rfl rfl trivial ?_
            refine aw_Oget (pc' := 52) (ci := 6) (kf := 1) (N := 14) (.ref 27) hO eX6_on_49 rfl rfl rfl inX6 (by decide) q251 rfl ?_
            refine aw_aload_n (pc' := 53) eX6_on_52 rfl rfl trivial ?_
            refine aw_Oget (pc' := 56) (ci := 6) (kf := 0) (N := 14) (.ref 17) hO eX6_on_53 rfl rfl rfl inX6 (by decide) q250 rfl ?_
            refine aw_callv (pc' := 59) (nn := 1) (c_X5_becomes (d := d - 1) hN hT (by omega) (by omega) (by omega)) eX6_on_56 rfl ⟨q332, q335, q56⟩ q333 q334 ⟨rfl, by decide +kernel, by decide +kernel, by decide +kernel⟩ rfl hT.ob rfl ⟨by omega, by decide⟩ ⟨by omega, by omega⟩ rfl (Nat.le_of_ble_eq_true rfl) (fun v60 h61 hq62 => ?_)
            obtain ⟨rfl, hW58, hs59⟩ := hq62
            have hF63 := hO.fr hs59 (by omega)
            have hF64 := hN.fr hs59 (by omega)
            dsimp only [Option.toList, List.cons_append, List.nil_append]
            refine aw_aload_n (pc' := 60) eX6_on_59 rfl rfl trivial ?_
            refine aw_Oget (pc' := 63) (ci := 6) (kf := 1) (N := 14) (.ref 27) hF63 eX6_on_60 rfl rfl rfl inX6 (by decide) q251 rfl ?_
            refine aw_iload_n (pc' := 64) eX6_on_63 rfl rfl ?_
            refine aw_callv (pc' := 67) (nn := 1) (c_X5_daysGo (d := d - 1) hW58 hg hA (x := x) (by omega) (by omega) (by omega) (by omega) (by omega)) eX6_on_64 rfl ⟨q604, q607, q56⟩ q605 q606 ⟨rfl, by decide +kernel, by decide +kernel, by decide +kernel⟩ rfl hW58.ob rfl ⟨by omega, by decide⟩ ⟨by omega, by omega⟩ rfl (Nat.le_of_ble_eq_true rfl) (fun v67 h68 hq69 => ?_)
            obtain ⟨rfl, hW65, hs66⟩ := hq69
            have hT70 := hs59.tr hs66
            have hF71 := hF63.fr hs66 (by omega)
            have hF72 := hF64.fr hs66 (by omega)
            dsimp only [Option.toList, List.cons_append, List.nil_append]
            refine aw_iload_n (pc' := 68) eX6_on_67 rfl rfl ?_
            refine aw_if_ne (pc' := 71) (tgt := 79) eX6_on_68 rfl (by decide) (fun c_68 => ?_) (fun c_68 => ?_)
            · refine aw_iload_n (pc' := 80) eX6_on_79 rfl rfl ?_
              refine aw_bipush (pc' := 82) (v := 20) eX6_on_80 rfl (by decide) ?_
              refine aw_icmp_lt (pc' := 85) (tgt := 97) eX6_on_82 rfl (by decide) (fun c_82 => ?_) (fun c_82 => ?_)
              · exact absurd c_82 c_3
              · refine aw_aload_n (pc' := 86) eX6_on_85 rfl rfl trivial ?_
                refine aw_Oget (pc' := 89) (ci := 6) (kf := 1) (N := 14) (.ref 27) hF71 eX6_on_86 rfl rfl rfl inX6 (by decide) q251 rfl ?_
                refine aw_Fref (pc' := 92) (kf := 6) hW65 eX6_on_89 rfl (by decide) q109 ?_
                refine aw_iload_n (pc' := 93) eX6_on_92 rfl rfl ?_
                refine aw_Fld (pc' := 94) 6 5 b hW65 eX6_on_93 rfl (by decide) rfl (show vp_in _ 6 from vp_in_nI (by omega) (by omega)) (nI_clamp (by omega)) ?_
                refine aw_goto eX6_on_94 (by decide) (tgt := 106) ?_
                refine aw_ret (v := some (.int _)) eX6_on_106 ⟨rfl, rfl⟩ (by omega) (by omega) rfl ?_
                rw [sOn, if_pos (Or.inr (Or.inr hb9)), if_pos hn9, clx, sOnV, if_neg c_68, if_neg c_82, eb, clb]
                exact ⟨rfl, (hW65).dt, hT70⟩
            · exact absurd c_68 c_19
          · refine aw_bipush (pc' := 47) (v := -2) eX6_on_45 rfl (by decide) ?_
            refine aw_ret (v := some (.int _)) eX6_on_47 ⟨rfl, rfl⟩ (by omega) (by omega) rfl ?_
            rw [sOn, if_pos (Or.inr (Or.inr hb9)), if_neg (by rw [(bI_fle c_42)]; decide)]
            exact ⟨rfl, hT, Same.rf⟩
      · refine aw_iconst (pc' := 34) (v := -1) eX6_on_33 rfl (by decide) ?_
        refine aw_ret (v := some (.int _)) eX6_on_34 ⟨rfl, rfl⟩ (by omega) (by omega) rfl ?_
        rw [sOn, if_neg (fun z => z.elim c_19 (fun z => z.elim (fun z => by rw [on_hi hm6 c_3] at z; exact absurd z (by decide)) (fun z => by rw [zb_eq0.mp c_30] at z; exact absurd z (by decide))))]
        exact ⟨rfl, hT, Same.rf⟩
abbrev mX6_begin : MT := (RX6, cX6_begin, 7, (some .int), false)
theorem eX6_begin_0 : decode mX6_begin.2.1 0 = .ok (.iload_n 2, 1) := by decide +kernel
theorem eX6_begin_1 : decode mX6_begin.2.1 1 = .ok (.ifCond .lt 8, 3) := by decide +kernel
theorem eX6_begin_4 : decode mX6_begin.2.1 4 = .ok (.iload_n 2, 1) := by decide +kernel
theorem eX6_begin_5 : decode mX6_begin.2.1 5 = .ok (.iconst 1, 1) := by decide +kernel
theorem eX6_begin_6 : decode mX6_begin.2.1 6 = .ok (.if_icmp .le 5, 3) := by decide +kernel
theorem eX6_begin_9 : decode mX6_begin.2.1 9 = .ok (.iconst (-1), 1) := by decide +kernel
theorem eX6_begin_10 : decode mX6_begin.2.1 10 = .ok (.ireturn, 1) := by decide +kernel
theorem eX6_begin_11 : decode mX6_begin.2.1 11 = .ok (.iload_n 1, 1) := by decide +kernel
theorem eX6_begin_12 : decode mX6_begin.2.1 12 = .ok (.iconst 1, 1) := by decide +kernel
theorem eX6_begin_13 : decode mX6_begin.2.1 13 = .ok (.if_icmp .lt 9, 3) := by decide +kernel
theorem eX6_begin_16 : decode mX6_begin.2.1 16 = .ok (.iload_n 1, 1) := by decide +kernel
theorem eX6_begin_17 : decode mX6_begin.2.1 17 = .ok (.bipush 20, 2) := by decide +kernel
theorem eX6_begin_19 : decode mX6_begin.2.1 19 = .ok (.if_icmp .le 6, 3) := by decide +kernel
theorem eX6_begin_22 : decode mX6_begin.2.1 22 = .ok (.bipush (-2), 2) := by decide +kernel
theorem eX6_begin_24 : decode mX6_begin.2.1 24 = .ok (.ireturn, 1) := by decide +kernel
theorem eX6_begin_25 : decode mX6_begin.2.1 25 = .ok (.iconst 0, 1) := by decide +kernel
theorem eX6_begin_26 : decode mX6_begin.2.1 26 = .ok (.istore_n 3, 1) := by decide +kernel
theorem eX6_begin_27 : decode mX6_begin.2.1 27 = .ok (.iconst (-1), 1) := by decide +kernel
theorem eX6_begin_28 : decode mX6_begin.2.1 28 = .ok (.istore 4, 2) := by decide +kernel
theorem eX6_begin_30 : decode mX6_begin.2.1 30 = .ok (.iconst 0, 1) := by decide +kernel
theorem eX6_begin_31 : decode mX6_begin.2.1 31 = .ok (.istore 5, 2) := by decide +kernel
theorem eX6_begin_33 : decode mX6_begin.2.1 33 = .ok (.iload 5, 2) := by decide +kernel
theorem eX6_begin_35 : decode mX6_begin.2.1 35 = .ok (.bipush 12, 2) := by decide +kernel
theorem eX6_begin_37 : decode mX6_begin.2.1 37 = .ok (.if_icmp .ge 39, 3) := by decide +kernel
theorem eX6_begin_40 : decode mX6_begin.2.1 40 = .ok (.aload_n 0, 1) := by decide +kernel
theorem eX6_begin_41 : decode mX6_begin.2.1 41 = .ok (.iload 5, 2) := by decide +kernel
theorem eX6_begin_43 : decode mX6_begin.2.1 43 = .ok (.iload_n 1, 1) := by decide +kernel
theorem eX6_begin_44 : decode mX6_begin.2.1 44 = .ok (.invokevirtual 182, 3) := by decide +kernel
theorem eX6_begin_47 : decode mX6_begin.2.1 47 = .ok (.aload_n 0, 1) := by decide +kernel
theorem eX6_begin_48 : decode mX6_begin.2.1 48 = .ok (.getfield 21, 3) := by decide +kernel
theorem eX6_begin_51 : decode mX6_begin.2.1 51 = .ok (.invokevirtual 173, 3) := by decide +kernel
theorem eX6_begin_54 : decode mX6_begin.2.1 54 = .ok (.istore 6, 2) := by decide +kernel
theorem eX6_begin_56 : decode mX6_begin.2.1 56 = .ok (.iload 6, 2) := by decide +kernel
theorem eX6_begin_58 : decode mX6_begin.2.1 58 = .ok (.iload 4, 2) := by decide +kernel
theorem eX6_begin_60 : decode mX6_begin.2.1 60 = .ok (.if_icmp .le 10, 3) := by decide +kernel
theorem eX6_begin_63 : decode mX6_begin.2.1 63 = .ok (.iload 6, 2) := by decide +kernel
theorem eX6_begin_65 : decode mX6_begin.2.1 65 = .ok (.istore 4, 2) := by decide +kernel
theorem eX6_begin_67 : decode mX6_begin.2.1 67 = .ok (.iload 5, 2) := by decide +kernel
theorem eX6_begin_69 : decode mX6_begin.2.1 69 = .ok (.istore_n 3, 1) := by decide +kernel
theorem eX6_begin_70 : decode mX6_begin.2.1 70 = .ok (.iinc 5 1, 3) := by decide +kernel
theorem eX6_begin_73 : decode mX6_begin.2.1 73 = .ok (.goto (-40), 3) := by decide +kernel
theorem eX6_begin_76 : decode mX6_begin.2.1 76 = .ok (.iload_n 2, 1) := by decide +kernel
theorem eX6_begin_77 : decode mX6_begin.2.1 77 = .ok (.ifCond .ne 7, 3) := by decide +kernel
theorem eX6_begin_80 : decode mX6_begin.2.1 80 = .ok (.iload_n 3, 1) := by decide +kernel
theorem eX6_begin_81 : decode mX6_begin.2.1 81 = .ok (.goto 5, 3) := by decide +kernel
theorem eX6_begin_84 : decode mX6_begin.2.1 84 = .ok (.iload 4, 2) := by decide +kernel
theorem eX6_begin_86 : decode mX6_begin.2.1 86 = .ok (.ireturn, 1) := by decide +kernel
theorem sOn0 (hg : gOk g m t) (p : Nat) {x : Nat} (hx : x ≤ 20) : sOn F (upd g 62 (nI p)) m t (nI x) 0 = sCnt (sDys F m x t (upd g 62 (nI p))) 4 m := by
  rw [sOn, if_pos (Or.inl rfl), if_pos (show bIn (nI x) 0 60 = true from (bIn_lit (N := 60) (by omega)).mpr ⟨x, by omega, rfl⟩), nI_clamp (by omega), sOnV, if_pos rfl]
theorem mx_eq {a b : Int32} (c : b ≤ a) : a = if b < a then a else b := by
  by_cases z : b < a
  · rw [if_pos z]
  · rw [if_neg z]
    exact Int32.le_antisymm (Int32.not_lt.mp z) c
theorem lp_X6_begin (hg : gOk g m t) (hA : gAge g m t) (ht9 : t ≤ 20000) {x : Nat} (hx20 : x ≤ 20) {w : Int32} (hd : 9 ≤ d) {h0 : Hp} (hQ : ∀ h', DT h' 27 (nI 2147483647) → Same 27 10 h0 h' → Q (some (.int (if w = 0 then (sBeg F g m t (nI x) 12).1 else (sBeg F g m t (nI x) 12).2))) h') : ∀ (j p : Nat) (y x3 x4 : Int32) (o6 : Option Value) (h : Hp), j = 12 - p → p ≤ 12 → y = nI p → x3 = (sBeg F g m t (nI x) p).1 → x4 = (sBeg F g m t (nI x) p).2 → OA h 16 (.inr (6, afs bi se)) → WF F h 17 g (nI 9999) → DT h 27 (nI 2147483647) → Same 27 10 h0 h → AW l G mX6_begin d 0 0 Q 0 0 h [some (.ref 16), some (.int (nI x)), some (.int w), some (.int x3), some (.int x4), some (.int y), o6] [] 33 := by
  intro j
  induction j using Nat.strongRecOn with
  | _ j ih =>
    intro p y x3 x4 o6 h hj hp hy hx3 hx4 hO hN hT hs
    subst hy hx3 hx4
    refine aw_iload (pc' := 35) eX6_begin_33 rfl rfl ?_
    refine aw_bipush (pc' := 37) (v := 12) eX6_begin_35 rfl (by decide) ?_
    refine aw_icmp_ge (pc' := 40) (tgt := 76) eX6_begin_37 rfl (by decide) (fun c_37 => ?_) (fun c_37 => ?_)
    · have c9 := ge_nI (b := 12) (by omega) (by omega) c_37
      obtain rfl : p = 12 := by omega
      refine aw_iload_n (pc' := 77) eX6_begin_76 rfl rfl ?_
      refine aw_if_ne (pc' := 80) (tgt := 84) eX6_begin_77 rfl (by decide) (fun c_77 => ?_) (fun c_77 => ?_)
      · refine aw_iload (pc' := 86) eX6_begin_84 rfl rfl ?_
        refine aw_ret (v := some (.int _)) eX6_begin_86 ⟨rfl, rfl⟩ (by omega) (by omega) rfl ?_
        rw [if_neg c_77] at hQ
        exact hQ _ hT hs
      · refine aw_iload_n (pc' := 81) eX6_begin_80 rfl rfl ?_
        refine aw_goto eX6_begin_81 (by decide) (tgt := 86) ?_
        refine aw_ret (v := some (.int _)) eX6_begin_86 ⟨rfl, rfl⟩ (by omega) (by omega) rfl ?_
        rw [if_pos c_77] at hQ
        exact hQ _ hT hs
    · have c9 : p < 12 := nge_nI (b := 12) (by omega) (by omega) c_37
      refine aw_aload_n (pc' := 41) eX6_begin_40 rfl rfl trivial ?_
      refine aw_iload (pc' := 43) eX6_begin_41 rfl rfl ?_
      refine aw_iload_n (pc' := 44) eX6_begin_43 rfl rfl ?_
      refine aw_callv (pc' := 47) (nn := 2) (c_X6_trialFromFinderAt (d := d - 1) hO hN hT hg hA ht9 (p := p) (x := x) (by omega) (by omega)) eX6_begin_44 rfl ⟨q617, q620, q55⟩ q619 q15 ⟨rfl, by decide +kernel, by decide +kernel, by decide +kernel⟩ rfl (by rw [hO.1]; exact ⟨rfl, rfl⟩) rfl ⟨by omega, by decide⟩ ⟨by omega, by omega⟩ rfl (Nat.le_of_ble_eq_true rfl) (fun v3 h4 hq5 => ?_)
      obtain ⟨rfl, hW1, hs2⟩ := hq5
      have hF6 := hO.fr hs2 (by omega)
      have hF7 := hN.fr hs2 (by omega)
      dsimp only [Option.toList, List.cons_append, List.nil_append]
      refine aw_aload_n (pc' := 48) eX6_begin_47 rfl rfl trivial ?_
      refine aw_Oget (pc' := 51) (ci := 6) (kf := 1) (N := 14) (.ref 27) hF6 eX6_begin_48 rfl rfl rfl inX6 (by decide) q251 rfl ?_
      refine aw_callv (pc' := 54) (nn := 0) (c_X5_howManyFound (d := d - 1) hW1 (m := m) ((sDys_hi hg.2.1 (by omega) (by decide) (by decide) x t _).trans ((upd_ne (by decide)).trans hg.1)) hg.2.1 (by omega)) eX6_begin_51 rfl ⟨q592, q595, q56⟩ q593 q594 ⟨rfl, by decide +kernel, by decide +kernel, by decide +kernel⟩ rfl hW1.ob rfl ⟨by omega, by decide⟩ ⟨by omega, by omega⟩ rfl (Nat.le_of_ble_eq_true rfl) (fun v8 h9 hq10 => ?_)
      obtain ⟨rfl, rfl⟩ := hq10
      dsimp only [Option.toList, List.cons_append, List.nil_append]
      refine aw_istore (pc' := 56) eX6_begin_54 rfl (by decide) ?_
      dsimp only [zst, zst2, zcut]
      refine aw_iload (pc' := 58) eX6_begin_56 rfl rfl ?_
      refine aw_iload (pc' := 60) eX6_begin_58 rfl rfl ?_
      refine aw_icmp_le (pc' := 63) (tgt := 70) eX6_begin_60 rfl (by decide) (fun c_60 => ?_) (fun c_60 => ?_)
      · refine aw_iinc (pc' := 73) eX6_begin_70 rfl rfl rfl (by decide) ?_
        dsimp only [zst, zst2, zcut]
        refine aw_goto eX6_begin_73 (by decide) (tgt := 33) ?_
        have eO := sOn0 (F := F) hg p hx20
        refine ih (12 - (p + 1)) (by omega) (p + 1) _ _ _ _ _ rfl (by omega) (nI_inc p) ?_ ?_ hF6 hF7 (hW1).dt (hs.tr hs2)
        · rw [sBeg, eO, if_neg (Int32.not_lt.mpr c_60)]
        · rw [sBeg, eO]
          exact mx_eq c_60
      · refine aw_iload (pc' := 65) eX6_begin_63 rfl rfl ?_
        refine aw_istore (pc' := 67) eX6_begin_65 rfl (by decide) ?_
        dsimp only [zst, zst2, zcut]
        refine aw_iload (pc' := 69) eX6_begin_67 rfl rfl ?_
        refine aw_istore_n (pc' := 70) eX6_begin_69 rfl (by decide) ?_
        dsimp only [zst, zst2, zcut]
        refine aw_iinc (pc' := 73) eX6_begin_70 rfl rfl rfl (by decide) ?_
        dsimp only [zst, zst2, zcut]
        refine aw_goto eX6_begin_73 (by decide) (tgt := 33) ?_
        have eO := sOn0 (F := F) hg p hx20
        refine ih (12 - (p + 1)) (by omega) (p + 1) _ _ _ _ _ rfl (by omega) (nI_inc p) ?_ ?_ hF6 hF7 (hW1).dt (hs.tr hs2)
        · rw [sBeg, eO, if_pos (Int32.not_le.mp c_60)]
        · rw [sBeg, eO, if_neg (fun z => absurd (Int32.not_le.mp c_60) (Int32.not_lt.mpr (Int32.le_of_lt z)))]
theorem c_X6_begin (hO : OA h 16 (.inr (6, afs bi se))) (hN : WF F h 17 g (nI 9999)) (hT : DT h 27 (nI 2147483647)) (hg : gOk g m t) (hA : gAge g m t) (ht9 : t ≤ 20000) (n w : Int32) (hd : 9 ≤ d) : Ct l G mX6_begin yX6_begin d 0 0 [.ref 16, .int n, .int w] h (fun r h' => r = some (.int (sBegin F g m t n w)) ∧ DT h' 27 (nI 2147483647) ∧ Same 27 10 h h') := by
  refine ct_of (lv := [some (.ref 16), some (.int n), some (.int w), none, none, none, none]) (by decide +kernel) rfl (fun z => by cases z) (fun _ => rfl) (fun _ => Nat.le_of_ble_eq_true rfl) ?_
  refine aw_iload_n (pc' := 1) eX6_begin_0 rfl rfl ?_
  refine aw_if_lt (pc' := 4) (tgt := 9) eX6_begin_1 rfl (by decide) (fun c_1 => ?_) (fun c_1 => ?_)
  · refine aw_iconst (pc' := 10) (v := -1) eX6_begin_9 rfl (by decide) ?_
    refine aw_ret (v := some (.int _)) eX6_begin_10 ⟨rfl, rfl⟩ (by omega) (by omega) rfl ?_
    rw [sBegin, if_neg (by rw [(bI_f1 c_1)]; decide)]
    exact ⟨rfl, hT, Same.rf⟩
  · refine aw_iload_n (pc' := 5) eX6_begin_4 rfl rfl ?_
    refine aw_iconst (pc' := 6) (v := 1) eX6_begin_5 rfl (by decide) ?_
    refine aw_icmp_le (pc' := 9) (tgt := 11) eX6_begin_6 rfl (by decide) (fun c_6 => ?_) (fun c_6 => ?_)
    · refine aw_iload_n (pc' := 12) eX6_begin_11 rfl rfl ?_
      refine aw_iconst (pc' := 13) (v := 1) eX6_begin_12 rfl (by decide) ?_
      refine aw_icmp_lt (pc' := 16) (tgt := 22) eX6_begin_13 rfl (by decide) (fun c_13 => ?_) (fun c_13 => ?_)
      · refine aw_bipush (pc' := 24) (v := -2) eX6_begin_22 rfl (by decide) ?_
        refine aw_ret (v := some (.int _)) eX6_begin_24 ⟨rfl, rfl⟩ (by omega) (by omega) rfl ?_
        rw [sBegin, if_pos (bI_tle c_1 c_6), if_neg (by rw [(bI_f1 c_13)]; decide)]
        exact ⟨rfl, hT, Same.rf⟩
      · refine aw_iload_n (pc' := 17) eX6_begin_16 rfl rfl ?_
        refine aw_bipush (pc' := 19) (v := 20) eX6_begin_17 rfl (by decide) ?_
        refine aw_icmp_le (pc' := 22) (tgt := 25) eX6_begin_19 rfl (by decide) (fun c_19 => ?_) (fun c_19 => ?_)
        · have hn9 := bI_tle c_13 c_19
          obtain ⟨x, hx20, rfl⟩ : ∃ x, x ≤ 20 ∧ n = nI x := by
            have y := bIn_toInt.mp hn9
            rw [show (1 : Int32).toInt = 1 from by decide, show (20 : Int32).toInt = 20 from by decide] at y
            exact ⟨n.toInt.toNat, by omega, Int32.toInt_inj.mp (by rw [nI_toInt (by omega)]; omega)⟩
          refine aw_iconst (pc' := 26) (v := 0) eX6_begin_25 rfl (by decide) ?_
          refine aw_istore_n (pc' := 27) eX6_begin_26 rfl (by decide) ?_
          dsimp only [zst, zst2, zcut]
          refine aw_iconst (pc' := 28) (v := -1) eX6_begin_27 rfl (by decide) ?_
          refine aw_istore (pc' := 30) eX6_begin_28 rfl (by decide) ?_
          dsimp only [zst, zst2, zcut]
          refine aw_iconst (pc' := 31) (v := 0) eX6_begin_30 rfl (by decide) ?_
          refine aw_istore (pc' := 33) eX6_begin_31 rfl (by decide) ?_
          dsimp only [zst, zst2, zcut]
          refine lp_X6_begin hg hA ht9 hx20 (by omega) (fun h' a b => ⟨?_, a, b⟩) 12 0 _ _ _ _ _ (by omega) (by omega) rfl rfl rfl hO hN hT Same.rf
          rw [sBegin, if_pos (bI_tle c_1 c_6), if_pos hn9]
        · refine aw_bipush (pc' := 24) (v := -2) eX6_begin_22 rfl (by decide) ?_
          refine aw_ret (v := some (.int _)) eX6_begin_24 ⟨rfl, rfl⟩ (by omega) (by omega) rfl ?_
          rw [sBegin, if_pos (bI_tle c_1 c_6), if_neg (by rw [(bI_fle c_19)]; decide)]
          exact ⟨rfl, hT, Same.rf⟩
    · refine aw_iconst (pc' := 10) (v := -1) eX6_begin_9 rfl (by decide) ?_
      refine aw_ret (v := some (.int _)) eX6_begin_10 ⟨rfl, rfl⟩ (by omega) (by omega) rfl ?_
      rw [sBegin, if_neg (by rw [(bI_fle c_6)]; decide)]
      exact ⟨rfl, hT, Same.rf⟩
end C17
