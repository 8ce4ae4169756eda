/-! the model: a day -/
section M15
variable {l : Launch} {G : GT} {u : Nat} {U U1 : MS} {d n m t : Nat} {g : Nat → Int32} {h : Hp} {Q : Option Value → Hp → Prop}
def sD1 (cur : Int32) (i : Nat) (g : Nat → Int32) : Nat → Int32 :=
  if g (10 * i + 3) = 2 then upd (upd g (10 * i + 5) (jr (g (10 * i + 5) + cur) 12)) (10 * i + 3) (if (g 61 >>> (jr (g (10 * i + 5) + cur) 12 &&& 31)) &&& 1 = 1 then 3 else 2) else g
def sD2 (i : Nat) (g : Nat → Int32) : Nat → Int32 := if g (10 * i + 3) = 3 ∧ g (10 * i + 5) = g 62 then upd g (10 * i + 3) 4 else g
def sD3 (i : Nat) (g : Nat → Int32) : Nat → Int32 := if g (10 * i + 3) = 1 then upd g (10 * i + 4) (g (10 * i + 4) + 1) else g
def sDs (cur : Int32) (g : Nat → Int32) : Nat → Nat → Int32
  | 0 => g
  | i + 1 => sD3 i (sD2 i (sD1 cur i (sDs cur g i)))
theorem sD1_hi {cur : Int32} {i j : Nat} {g : Nat → Int32} (hi : i < 6) (hj : 60 ≤ j) : sD1 cur i g j = g j := by
  unfold sD1
  split
  · rw [upd_ne (by omega), upd_ne (by omega)]
  · rfl
theorem sD2_hi {i j : Nat} {g : Nat → Int32} (hi : i < 6) (hj : 60 ≤ j) : sD2 i g j = g j := by
  unfold sD2
  split
  · rw [upd_ne (by omega)]
  · rfl
theorem sD3_hi {i j : Nat} {g : Nat → Int32} (hi : i < 6) (hj : 60 ≤ j) : sD3 i g j = g j := by
  unfold sD3
  split
  · rw [upd_ne (by omega)]
  · rfl
theorem sDs_hi {cur : Int32} {g : Nat → Int32} {j : Nat} (hj : 60 ≤ j) : ∀ i, i ≤ 6 → sDs cur g i j = g j
  | 0, _ => rfl
  | i + 1, h => by rw [sDs, sD3_hi (by omega) hj, sD2_hi (by omega) hj, sD1_hi (by omega) hj, sDs_hi hj i (by omega)]
/-- the finder goes on -/
def sFi (g : Nat → Int32) : Nat → Int32 := upd g 62 (jr (g 62 + 1) 12)
def sDay (F : FT) (m t : Nat) (g : Nat → Int32) : Nat → Int32 :=
  upd (sDs (g (63 + t % 4)) (sFi (sBring F g m t)) m) 67 (nI (t + 1))
def sDys (F : FT) (m : Nat) : Nat → Nat → (Nat → Int32) → (Nat → Int32)
  | 0, _, g => g
  | k + 1, t, g => sDys F m k (t + 1) (sDay F m t g)
theorem sDay_hi {F : FT} {m t j : Nat} {g : Nat → Int32} (hm : m ≤ 6) (hj : 60 ≤ j) (h62 : j ≠ 62) (h67 : j ≠ 67) : sDay F m t g j = g j := by
  rw [sDay, upd_ne h67, sDs_hi hj m hm, sFi, upd_ne h62, sBring_hi hm hj]
theorem sDay_ok {F : FT} {m t : Nat} {g : Nat → Int32} (hg : gOk g m t) (ht : t < 1073741824) : gOk (sDay F m t g) m (t + 1) := by
  obtain ⟨h1, h2, h3, h4, h5⟩ := hg
  refine ⟨(sDay_hi h2 (by omega) (by decide) (by decide)).trans h1, h2, ?_, by omega, ?_⟩
  · rw [sDay]; exact upd_eq _ _ _
  · rw [sDay_hi h2 (by omega) (by decide) (by decide)]; exact h5
theorem sDys_ok {F : FT} {m : Nat} : ∀ (k t : Nat) (g : Nat → Int32), gOk g m t → t + k ≤ 1073741824 → gOk (sDys F m k t g) m (t + k)
  | 0, _, _, h, _ => h
  | k + 1, t, g, h, ht => by
    have z := sDys_ok (F := F) k (t + 1) _ (sDay_ok (F := F) h (by omega)) (by omega)
    rw [show t + (k + 1) = t + 1 + k by omega]
    exact z
theorem sDys_hi {F : FT} {m j : Nat} (hm : m ≤ 6) (hj : 60 ≤ j) (h62 : j ≠ 62) (h67 : j ≠ 67) : ∀ (k t : Nat) (g : Nat → Int32), sDys F m k t g j = g j
  | 0, _, _ => rfl
  | k + 1, t, g => (sDys_hi hm hj h62 h67 k (t + 1) _).trans (sDay_hi hm hj h62 h67)
theorem mg_id' (g : Nat → Int32) (k : Nat) : upd g k (g k) = g := by
  funext j
  rw [upd_if]
  split
  · rename_i e; rw [e]
  · rfl

abbrev mX7_day : MT := (RX7, cX7_day, 4, none, false)
theorem eX7_day_0 : decode mX7_day.2.1 0 = .ok (.aload_n 0, 1) := by decide +kernel
theorem eX7_day_1 : decode mX7_day.2.1 1 = .ok (.invokevirtual 197, 3) := by decide +kernel
theorem eX7_day_4 : decode mX7_day.2.1 4 = .ok (.aload_n 0, 1) := by decide +kernel
theorem eX7_day_5 : decode mX7_day.2.1 5 = .ok (.getfield 15, 3) := by decide +kernel
theorem eX7_day_8 : decode mX7_day.2.1 8 = .ok (.bipush 63, 2) := by decide +kernel
theorem eX7_day_10 : decode mX7_day.2.1 10 = .ok (.aload_n 0, 1) := by decide +kernel
theorem eX7_day_11 : decode mX7_day.2.1 11 = .ok (.getfield 15, 3) := by decide +kernel
theorem eX7_day_14 : decode mX7_day.2.1 14 = .ok (.bipush 67, 2) := by decide +kernel
theorem eX7_day_16 : decode mX7_day.2.1 16 = .ok (.iaload, 1) := by decide +kernel
theorem eX7_day_17 : decode mX7_day.2.1 17 = .ok (.iconst 4, 1) := by decide +kernel
theorem eX7_day_18 : decode mX7_day.2.1 18 = .ok (.irem, 1) := by decide +kernel
theorem eX7_day_19 : decode mX7_day.2.1 19 = .ok (.iadd, 1) := by decide +kernel
theorem eX7_day_20 : decode mX7_day.2.1 20 = .ok (.iaload, 1) := by decide +kernel
theorem eX7_day_21 : decode mX7_day.2.1 21 = .ok (.istore_n 1, 1) := by decide +kernel
theorem eX7_day_22 : decode mX7_day.2.1 22 = .ok (.aload_n 0, 1) := by decide +kernel
theorem eX7_day_23 : decode mX7_day.2.1 23 = .ok (.getfield 15, 3) := by decide +kernel
theorem eX7_day_26 : decode mX7_day.2.1 26 = .ok (.bipush 62, 2) := by decide +kernel
theorem eX7_day_28 : decode mX7_day.2.1 28 = .ok (.aload_n 0, 1) := by decide +kernel
theorem eX7_day_29 : decode mX7_day.2.1 29 = .ok (.getfield 15, 3) := by decide +kernel
theorem eX7_day_32 : decode mX7_day.2.1 32 = .ok (.bipush 62, 2) := by decide +kernel
theorem eX7_day_34 : decode mX7_day.2.1 34 = .ok (.iaload, 1) := by decide +kernel
theorem eX7_day_35 : decode mX7_day.2.1 35 = .ok (.iconst 1, 1) := by decide +kernel
theorem eX7_day_36 : decode mX7_day.2.1 36 = .ok (.iadd, 1) := by decide +kernel
theorem eX7_day_37 : decode mX7_day.2.1 37 = .ok (.bipush 12, 2) := by decide +kernel
theorem eX7_day_39 : decode mX7_day.2.1 39 = .ok (.irem, 1) := by decide +kernel
theorem eX7_day_40 : decode mX7_day.2.1 40 = .ok (.iastore, 1) := by decide +kernel
theorem eX7_day_41 : decode mX7_day.2.1 41 = .ok (.iconst 0, 1) := by decide +kernel
theorem eX7_day_42 : decode mX7_day.2.1 42 = .ok (.istore_n 2, 1) := by decide +kernel
theorem eX7_day_43 : decode mX7_day.2.1 43 = .ok (.iload_n 2, 1) := by decide +kernel
theorem eX7_day_44 : decode mX7_day.2.1 44 = .ok (.aload_n 0, 1) := by decide +kernel
theorem eX7_day_45 : decode mX7_day.2.1 45 = .ok (.getfield 15, 3) := by decide +kernel
theorem eX7_day_48 : decode mX7_day.2.1 48 = .ok (.bipush 60, 2) := by decide +kernel
theorem eX7_day_50 : decode mX7_day.2.1 50 = .ok (.iaload, 1) := by decide +kernel
theorem eX7_day_51 : decode mX7_day.2.1 51 = .ok (.if_icmp .ge 122, 3) := by decide +kernel
theorem eX7_day_54 : decode mX7_day.2.1 54 = .ok (.aload_n 0, 1) := by decide +kernel
theorem eX7_day_55 : decode mX7_day.2.1 55 = .ok (.iload_n 2, 1) := by decide +kernel
theorem eX7_day_56 : decode mX7_day.2.1 56 = .ok (.iconst 2, 1) := by decide +kernel
theorem eX7_day_57 : decode mX7_day.2.1 57 = .ok (.invokevirtual 105, 3) := by decide +kernel
theorem eX7_day_60 : decode mX7_day.2.1 60 = .ok (.ifCond .eq 50, 3) := by decide +kernel
theorem eX7_day_63 : decode mX7_day.2.1 63 = .ok (.aload_n 0, 1) := by decide +kernel
theorem eX7_day_64 : decode mX7_day.2.1 64 = .ok (.iload_n 2, 1) := by decide +kernel
theorem eX7_day_65 : decode mX7_day.2.1 65 = .ok (.iconst 5, 1) := by decide +kernel
theorem eX7_day_66 : decode mX7_day.2.1 66 = .ok (.invokevirtual 84, 3) := by decide +kernel
theorem eX7_day_69 : decode mX7_day.2.1 69 = .ok (.iload_n 1, 1) := by decide +kernel
theorem eX7_day_70 : decode mX7_day.2.1 70 = .ok (.iadd, 1) := by decide +kernel
theorem eX7_day_71 : decode mX7_day.2.1 71 = .ok (.bipush 12, 2) := by decide +kernel
theorem eX7_day_73 : decode mX7_day.2.1 73 = .ok (.irem, 1) := by decide +kernel
theorem eX7_day_74 : decode mX7_day.2.1 74 = .ok (.istore_n 3, 1) := by decide +kernel
theorem eX7_day_75 : decode mX7_day.2.1 75 = .ok (.aload_n 0, 1) := by decide +kernel
theorem eX7_day_76 : decode mX7_day.2.1 76 = .ok (.iload_n 2, 1) := by decide +kernel
theorem eX7_day_77 : decode mX7_day.2.1 77 = .ok (.iconst 5, 1) := by decide +kernel
theorem eX7_day_78 : decode mX7_day.2.1 78 = .ok (.iload_n 3, 1) := by decide +kernel
theorem eX7_day_79 : decode mX7_day.2.1 79 = .ok (.invokevirtual 109, 3) := by decide +kernel
theorem eX7_day_82 : decode mX7_day.2.1 82 = .ok (.pop, 1) := by decide +kernel
theorem eX7_day_83 : decode mX7_day.2.1 83 = .ok (.aload_n 0, 1) := by decide +kernel
theorem eX7_day_84 : decode mX7_day.2.1 84 = .ok (.iload_n 2, 1) := by decide +kernel
theorem eX7_day_85 : decode mX7_day.2.1 85 = .ok (.iconst 3, 1) := by decide +kernel
theorem eX7_day_86 : decode mX7_day.2.1 86 = .ok (.aload_n 0, 1) := by decide +kernel
theorem eX7_day_87 : decode mX7_day.2.1 87 = .ok (.getfield 15, 3) := by decide +kernel
theorem eX7_day_90 : decode mX7_day.2.1 90 = .ok (.bipush 61, 2) := by decide +kernel
theorem eX7_day_92 : decode mX7_day.2.1 92 = .ok (.iaload, 1) := by decide +kernel
theorem eX7_day_93 : decode mX7_day.2.1 93 = .ok (.iload_n 3, 1) := by decide +kernel
theorem eX7_day_94 : decode mX7_day.2.1 94 = .ok (.ishr, 1) := by decide +kernel
theorem eX7_day_95 : decode mX7_day.2.1 95 = .ok (.iconst 1, 1) := by decide +kernel
theorem eX7_day_96 : decode mX7_day.2.1 96 = .ok (.iand, 1) := by decide +kernel
theorem eX7_day_97 : decode mX7_day.2.1 97 = .ok (.iconst 1, 1) := by decide +kernel
theorem eX7_day_98 : decode mX7_day.2.1 98 = .ok (.if_icmp .ne 7, 3) := by decide +kernel
theorem eX7_day_101 : decode mX7_day.2.1 101 = .ok (.iconst 3, 1) := by decide +kernel
theorem eX7_day_102 : decode mX7_day.2.1 102 = .ok (.goto 4, 3) := by decide +kernel
theorem eX7_day_105 : decode mX7_day.2.1 105 = .ok (.iconst 2, 1) := by decide +kernel
theorem eX7_day_106 : decode mX7_day.2.1 106 = .ok (.invokevirtual 109, 3) := by decide +kernel
theorem eX7_day_109 : decode mX7_day.2.1 109 = .ok (.pop, 1) := by decide +kernel
theorem eX7_day_110 : decode mX7_day.2.1 110 = .ok (.aload_n 0, 1) := by decide +kernel
theorem eX7_day_111 : decode mX7_day.2.1 111 = .ok (.iload_n 2, 1) := by decide +kernel
theorem eX7_day_112 : decode mX7_day.2.1 112 = .ok (.iconst 3, 1) := by decide +kernel
theorem eX7_day_113 : decode mX7_day.2.1 113 = .ok (.invokevirtual 105, 3) := by decide +kernel
theorem eX7_day_116 : decode mX7_day.2.1 116 = .ok (.ifCond .eq 27, 3) := by decide +kernel
theorem eX7_day_119 : decode mX7_day.2.1 119 = .ok (.aload_n 0, 1) := by decide +kernel
theorem eX7_day_120 : decode mX7_day.2.1 120 = .ok (.iload_n 2, 1) := by decide +kernel
theorem eX7_day_121 : decode mX7_day.2.1 121 = .ok (.iconst 5, 1) := by decide +kernel
theorem eX7_day_122 : decode mX7_day.2.1 122 = .ok (.invokevirtual 84, 3) := by decide +kernel
theorem eX7_day_125 : decode mX7_day.2.1 125 = .ok (.aload_n 0, 1) := by decide +kernel
theorem eX7_day_126 : decode mX7_day.2.1 126 = .ok (.getfield 15, 3) := by decide +kernel
theorem eX7_day_129 : decode mX7_day.2.1 129 = .ok (.bipush 62, 2) := by decide +kernel
theorem eX7_day_131 : decode mX7_day.2.1 131 = .ok (.iaload, 1) := by decide +kernel
theorem eX7_day_132 : decode mX7_day.2.1 132 = .ok (.if_icmp .ne 11, 3) := by decide +kernel
theorem eX7_day_135 : decode mX7_day.2.1 135 = .ok (.aload_n 0, 1) := by decide +kernel
theorem eX7_day_136 : decode mX7_day.2.1 136 = .ok (.iload_n 2, 1) := by decide +kernel
theorem eX7_day_137 : decode mX7_day.2.1 137 = .ok (.iconst 3, 1) := by decide +kernel
theorem eX7_day_138 : decode mX7_day.2.1 138 = .ok (.iconst 4, 1) := by decide +kernel
theorem eX7_day_139 : decode mX7_day.2.1 139 = .ok (.invokevirtual 109, 3) := by decide +kernel
theorem eX7_day_142 : decode mX7_day.2.1 142 = .ok (.pop, 1) := by decide +kernel
theorem eX7_day_143 : decode mX7_day.2.1 143 = .ok (.aload_n 0, 1) := by decide +kernel
theorem eX7_day_144 : decode mX7_day.2.1 144 = .ok (.iload_n 2, 1) := by decide +kernel
theorem eX7_day_145 : decode mX7_day.2.1 145 = .ok (.iconst 1, 1) := by decide +kernel
theorem eX7_day_146 : decode mX7_day.2.1 146 = .ok (.invokevirtual 105, 3) := by decide +kernel
theorem eX7_day_149 : decode mX7_day.2.1 149 = .ok (.ifCond .eq 18, 3) := by decide +kernel
theorem eX7_day_152 : decode mX7_day.2.1 152 = .ok (.aload_n 0, 1) := by decide +kernel
theorem eX7_day_153 : decode mX7_day.2.1 153 = .ok (.iload_n 2, 1) := by decide +kernel
theorem eX7_day_154 : decode mX7_day.2.1 154 = .ok (.iconst 4, 1) := by decide +kernel
theorem eX7_day_155 : decode mX7_day.2.1 155 = .ok (.aload_n 0, 1) := by decide +kernel
theorem eX7_day_156 : decode mX7_day.2.1 156 = .ok (.iload_n 2, 1) := by decide +kernel
theorem eX7_day_157 : decode mX7_day.2.1 157 = .ok (.iconst 4, 1) := by decide +kernel
theorem eX7_day_158 : decode mX7_day.2.1 158 = .ok (.invokevirtual 84, 3) := by decide +kernel
theorem eX7_day_161 : decode mX7_day.2.1 161 = .ok (.iconst 1, 1) := by decide +kernel
theorem eX7_day_162 : decode mX7_day.2.1 162 = .ok (.iadd, 1) := by decide +kernel
theorem eX7_day_163 : decode mX7_day.2.1 163 = .ok (.invokevirtual 109, 3) := by decide +kernel
theorem eX7_day_166 : decode mX7_day.2.1 166 = .ok (.pop, 1) := by decide +kernel
theorem eX7_day_167 : decode mX7_day.2.1 167 = .ok (.iinc 2 1, 3) := by decide +kernel
theorem eX7_day_170 : decode mX7_day.2.1 170 = .ok (.goto (-127), 3) := by decide +kernel
theorem eX7_day_173 : decode mX7_day.2.1 173 = .ok (.aload_n 0, 1) := by decide +kernel
theorem eX7_day_174 : decode mX7_day.2.1 174 = .ok (.getfield 15, 3) := by decide +kernel
theorem eX7_day_177 : decode mX7_day.2.1 177 = .ok (.bipush 67, 2) := by decide +kernel
theorem eX7_day_179 : decode mX7_day.2.1 179 = .ok (.dup2, 1) := by decide +kernel
theorem eX7_day_180 : decode mX7_day.2.1 180 = .ok (.iaload, 1) := by decide +kernel
theorem eX7_day_181 : decode mX7_day.2.1 181 = .ok (.iconst 1, 1) := by decide +kernel
theorem eX7_day_182 : decode mX7_day.2.1 182 = .ok (.iadd, 1) := by decide +kernel
theorem eX7_day_183 : decode mX7_day.2.1 183 = .ok (.iastore, 1) := by decide +kernel
theorem eX7_day_184 : decode mX7_day.2.1 184 = .ok (.return_, 1) := by decide +kernel
theorem dy1 {i : Nat} (hi : i < 6) {cur : Int32} (hd : 2 ≤ d) {h0 : Hp} (kk : ∀ h' U' o, MAt h' u U' → MK n (sD1 cur i (U1.1 1)) U U' → Same u 19 h0 h' → AW l G mX7_day d 0 0 Q 0 0 h' [some (.ref u), some (.int cur), some (.int (nI i)), o] [] 110) (o3 : Option Value) (hk : MK n (U1.1 1) U U1) (hM : MAt h u U1) (hs : Same u 19 h0 h) : AW l G mX7_day d 0 0 Q 0 0 h [some (.ref u), some (.int cur), some (.int (nI i)), o3] [] 54 := by
  refine aw_aload_n (pc' := 55) eX7_day_54 rfl rfl trivial ?_
  refine aw_iload_n (pc' := 56) eX7_day_55 rfl rfl ?_
  refine aw_iconst (pc' := 57) (v := 2) eX7_day_56 rfl (by decide) ?_
  refine aw_callv (pc' := 60) (nn := 2) (c_isAs (d := d - 1) hM i 2 (by omega) (by omega)) eX7_day_57 rfl ⟨q957, q960, q62⟩ q959 q36 ⟨rfl, by decide +kernel, by decide +kernel, by decide +kernel⟩ rfl (by rw [hM.2.1]; exact ⟨rfl, rfl⟩) rfl ⟨by omega, by decide⟩ ⟨by omega, by omega⟩ rfl (Nat.le_of_ble_eq_true rfl) (fun v1 h2 hq3 => ?_)
  obtain ⟨rfl, rfl⟩ := hq3
  dsimp only [Option.toList, List.cons_append, List.nil_append]
  refine aw_if_eq (pc' := 63) (tgt := 110) eX7_day_60 rfl (by decide) (fun c_60 => ?_) (fun c_60 => ?_)
  · simp only [zb_eq0, Bool.not_eq_false, Bool.not_eq_true, decide_eq_true_eq, decide_eq_false_iff_not, Decidable.not_not] at c_60
    exact kk _ _ _ hM (by rw [sD1, if_neg c_60]; exact hk) hs
  · refine aw_aload_n (pc' := 64) eX7_day_63 rfl rfl trivial ?_
    refine aw_iload_n (pc' := 65) eX7_day_64 rfl rfl ?_
    refine aw_iconst (pc' := 66) (v := 5) eX7_day_65 rfl (by decide) ?_
    refine aw_callv (pc' := 69) (nn := 2) (c_one (d := d - 1) hM i 5 (by omega) (by omega)) eX7_day_66 rfl ⟨q901, q904, q62⟩ q903 q22 ⟨rfl, by decide +kernel, by decide +kernel, by decide +kernel⟩ rfl (by rw [hM.2.1]; exact ⟨rfl, rfl⟩) rfl ⟨by omega, by decide⟩ ⟨by omega, by omega⟩ rfl (Nat.le_of_ble_eq_true rfl) (fun v4 h5 hq6 => ?_)
    obtain ⟨rfl, rfl⟩ := hq6
    dsimp only [Option.toList, List.cons_append, List.nil_append]
    refine aw_iload_n (pc' := 70) eX7_day_69 rfl rfl ?_
    refine aw_iadd (pc' := 71) eX7_day_70 rfl ?_
    refine aw_bipush (pc' := 73) (v := 12) eX7_day_71 rfl (by decide) ?_
    refine aw_irem (pc' := 74) eX7_day_73 rfl (by decide) ?_
    refine aw_istore_n (pc' := 75) eX7_day_74 rfl (by decide) ?_
    dsimp only [zst, zst2, zcut]
    refine aw_aload_n (pc' := 76) eX7_day_75 rfl rfl trivial ?_
    refine aw_iload_n (pc' := 77) eX7_day_76 rfl rfl ?_
    refine aw_iconst (pc' := 78) (v := 5) eX7_day_77 rfl (by decide) ?_
    refine aw_iload_n (pc' := 79) eX7_day_78 rfl rfl ?_
    refine aw_callv (pc' := 82) (nn := 3) (c_change (d := d - 1) hM i 5 _ (by omega) (by omega)) eX7_day_79 rfl ⟨q986, q989, q62⟩ q988 q43 ⟨rfl, by decide +kernel, by decide +kernel, by decide +kernel⟩ rfl (by rw [hM.2.1]; exact ⟨rfl, rfl⟩) rfl ⟨by omega, by decide⟩ ⟨by omega, by omega⟩ rfl (Nat.le_of_ble_eq_true rfl) (fun v9 h10 hq11 => ?_)
    obtain ⟨rfl, hM7, hs8⟩ := hq11
    dsimp only [Option.toList, List.cons_append, List.nil_append]
    refine aw_pop (pc' := 83) eX7_day_82 rfl rfl ?_
    have e61 : ∀ x : Int32, (mup U1 1 (10 * i + 5) x).1 1 61 = U1.1 1 61 := fun x => by rw [mup1, upd_ne (by omega)]
    refine aw_aload_n (pc' := 84) eX7_day_83 rfl rfl trivial ?_
    refine aw_iload_n (pc' := 85) eX7_day_84 rfl rfl ?_
    refine aw_iconst (pc' := 86) (v := 3) eX7_day_85 rfl (by decide) ?_
    refine aw_aload_n (pc' := 87) eX7_day_86 rfl rfl trivial ?_
    refine aw_Mref (pc' := 90) (kf := 0) 1 hM7 eX7_day_87 rfl (by decide) rfl q789 ?_
    refine aw_bipush (pc' := 92) (v := 61) eX7_day_90 rfl (by decide) ?_
    refine aw_MaldC (pc' := 93) 1 61 hM7 eX7_day_92 rfl (by decide) (by unfold vp_in; decide) (by decide) ?_
    refine aw_iload_n (pc' := 94) eX7_day_93 rfl rfl ?_
    refine aw_ishr (pc' := 95) eX7_day_94 rfl ?_
    refine aw_iconst (pc' := 96) (v := 1) eX7_day_95 rfl (by decide) ?_
    refine aw_iand (pc' := 97) eX7_day_96 rfl ?_
    refine aw_iconst (pc' := 98) (v := 1) eX7_day_97 rfl (by decide) ?_
    refine aw_icmp_ne (pc' := 101) (tgt := 105) eX7_day_98 rfl (by decide) (fun c_98 => ?_) (fun c_98 => ?_)
    · refine aw_iconst (pc' := 106) (v := 2) eX7_day_105 rfl (by decide) ?_
      refine aw_callv (pc' := 109) (nn := 3) (c_change (d := d - 1) hM7 i 3 _ (by omega) (by omega)) eX7_day_106 rfl ⟨q986, q989, q62⟩ q988 q43 ⟨rfl, by decide +kernel, by decide +kernel, by decide +kernel⟩ rfl (by rw [hM7.2.1]; exact ⟨rfl, rfl⟩) rfl ⟨by omega, by decide⟩ ⟨by omega, by omega⟩ rfl (Nat.le_of_ble_eq_true rfl) (fun v14 h15 hq16 => ?_)
      obtain ⟨rfl, hM12, hs13⟩ := hq16
      have hT17 := hs8.tr hs13
      dsimp only [Option.toList, List.cons_append, List.nil_append]
      refine aw_pop (pc' := 110) eX7_day_109 rfl rfl ?_
      simp only [zb_eq0, Bool.not_eq_false, Bool.not_eq_true, decide_eq_true_eq, decide_eq_false_iff_not, Decidable.not_not] at c_60
      rw [e61] at c_98
      refine kk _ _ _ hM12 ?_ (hs.tr hT17)
      rw [sD1, if_pos c_60]
      rw [if_neg (by exact c_98)]
      exact hk.up.up
    · refine aw_iconst (pc' := 102) (v := 3) eX7_day_101 rfl (by decide) ?_
      refine aw_goto eX7_day_102 (by decide) (tgt := 106) ?_
      refine aw_callv (pc' := 109) (nn := 3) (c_change (d := d - 1) hM7 i 3 _ (by omega) (by omega)) eX7_day_106 rfl ⟨q986, q989, q62⟩ q988 q43 ⟨rfl, by decide +kernel, by decide +kernel, by decide +kernel⟩ rfl (by rw [hM7.2.1]; exact ⟨rfl, rfl⟩) rfl ⟨by omega, by decide⟩ ⟨by omega, by omega⟩ rfl (Nat.le_of_ble_eq_true rfl) (fun v20 h21 hq22 => ?_)
      obtain ⟨rfl, hM18, hs19⟩ := hq22
      have hT23 := hs8.tr hs19
      dsimp only [Option.toList, List.cons_append, List.nil_append]
      refine aw_pop (pc' := 110) eX7_day_109 rfl rfl ?_
      simp only [zb_eq0, Bool.not_eq_false, Bool.not_eq_true, decide_eq_true_eq, decide_eq_false_iff_not, Decidable.not_not] at c_60
      rw [e61] at c_98
      refine kk _ _ _ hM18 ?_ (hs.tr hT23)
      rw [sD1, if_pos c_60]
      rw [if_pos (by first | exact c_98 | exact Decidable.not_not.mp c_98)]
      exact hk.up.up
theorem dy2 {i : Nat} (hi : i < 6) {cur : Int32} (hd : 2 ≤ d) {h0 : Hp} (o3 : Option Value) (kk : ∀ h' U', MAt h' u U' → MK n (sD2 i (U1.1 1)) U U' → Same u 19 h0 h' → AW l G mX7_day d 0 0 Q 0 0 h' [some (.ref u), some (.int cur), some (.int (nI i)), o3] [] 143) (hk : MK n (U1.1 1) U U1) (hM : MAt h u U1) (hs : Same u 19 h0 h) : AW l G mX7_day d 0 0 Q 0 0 h [some (.ref u), some (.int cur), some (.int (nI i)), o3] [] 110 := by
  refine aw_aload_n (pc' := 111) eX7_day_110 rfl rfl trivial ?_
  refine aw_iload_n (pc' := 112) eX7_day_111 rfl rfl ?_
  refine aw_iconst (pc' := 113) (v := 3) eX7_day_112 rfl (by decide) ?_
  refine aw_callv (pc' := 116) (nn := 2) (c_isAs (d := d - 1) hM i 3 (by omega) (by omega)) eX7_day_113 rfl ⟨q957, q960, q62⟩ q959 q36 ⟨rfl, by decide +kernel, by decide +kernel, by decide +kernel⟩ rfl (by rw [hM.2.1]; exact ⟨rfl, rfl⟩) rfl ⟨by omega, by decide⟩ ⟨by omega, by omega⟩ rfl (Nat.le_of_ble_eq_true rfl) (fun v1 h2 hq3 => ?_)
  obtain ⟨rfl, rfl⟩ := hq3
  dsimp only [Option.toList, List.cons_append, List.nil_append]
  refine aw_if_eq (pc' := 119) (tgt := 143) eX7_day_116 rfl (by decide) (fun c_116 => ?_) (fun c_116 => ?_)
  · simp only [zb_eq0, Bool.not_eq_false, Bool.not_eq_true, decide_eq_true_eq, decide_eq_false_iff_not, Decidable.not_not] at c_116
    exact kk _ _ hM (by rw [sD2, if_neg (fun z => c_116 z.1)]; exact hk) hs
  · refine aw_aload_n (pc' := 120) eX7_day_119 rfl rfl trivial ?_
    refine aw_iload_n (pc' := 121) eX7_day_120 rfl rfl ?_
    refine aw_iconst (pc' := 122) (v := 5) eX7_day_121 rfl (by decide) ?_
    refine aw_callv (pc' := 125) (nn := 2) (c_one (d := d - 1) hM i 5 (by omega) (by omega)) eX7_day_122 rfl ⟨q901, q904, q62⟩ q903 q22 ⟨rfl, by decide +kernel, by decide +kernel, by decide +kernel⟩ rfl (by rw [hM.2.1]; exact ⟨rfl, rfl⟩) rfl ⟨by omega, by decide⟩ ⟨by omega, by omega⟩ rfl (Nat.le_of_ble_eq_true rfl) (fun v4 h5 hq6 => ?_)
    obtain ⟨rfl, rfl⟩ := hq6
    dsimp only [Option.toList, List.cons_append, List.nil_append]
    refine aw_aload_n (pc' := 126) eX7_day_125 rfl rfl trivial ?_
    refine aw_Mref (pc' := 129) (kf := 0) 1 hM eX7_day_126 rfl (by decide) rfl q789 ?_
    refine aw_bipush (pc' := 131) (v := 62) eX7_day_129 rfl (by decide) ?_
    refine aw_MaldC (pc' := 132) 1 62 hM eX7_day_131 rfl (by decide) (by unfold vp_in; decide) (by decide) ?_
    refine aw_icmp_ne (pc' := 135) (tgt := 143) eX7_day_132 rfl (by decide) (fun c_132 => ?_) (fun c_132 => ?_)
    · simp only [zb_eq0, Bool.not_eq_false, Bool.not_eq_true, decide_eq_true_eq, decide_eq_false_iff_not, Decidable.not_not] at c_116
      exact kk _ _ hM (by rw [sD2, if_neg (fun z => c_132 z.2)]; exact hk) hs
    · refine aw_aload_n (pc' := 136) eX7_day_135 rfl rfl trivial ?_
      refine aw_iload_n (pc' := 137) eX7_day_136 rfl rfl ?_
      refine aw_iconst (pc' := 138) (v := 3) eX7_day_137 rfl (by decide) ?_
      refine aw_iconst (pc' := 139) (v := 4) eX7_day_138 rfl (by decide) ?_
      refine aw_callv (pc' := 142) (nn := 3) (c_change (d := d - 1) hM i 3 4 (by omega) (by omega)) eX7_day_139 rfl ⟨q986, q989, q62⟩ q988 q43 ⟨rfl, by decide +kernel, by decide +kernel, by decide +kernel⟩ rfl (by rw [hM.2.1]; exact ⟨rfl, rfl⟩) rfl ⟨by omega, by decide⟩ ⟨by omega, by omega⟩ rfl (Nat.le_of_ble_eq_true rfl) (fun v9 h10 hq11 => ?_)
      obtain ⟨rfl, hM7, hs8⟩ := hq11
      dsimp only [Option.toList, List.cons_append, List.nil_append]
      refine aw_pop (pc' := 143) eX7_day_142 rfl rfl ?_
      simp only [zb_eq0, Bool.not_eq_false, Bool.not_eq_true, decide_eq_true_eq, decide_eq_false_iff_not, Decidable.not_not] at c_116
      exact kk _ _ hM7 (by rw [sD2, if_pos ⟨c_116, by first | exact c_132 | exact Decidable.not_not.mp c_132⟩]; exact hk.up) (hs.tr hs8)
theorem dy3 {i : Nat} (hi : i < 6) {cur : Int32} (hd : 2 ≤ d) {h0 : Hp} (o3 : Option Value) (kk : ∀ h' U', MAt h' u U' → MK n (sD3 i (U1.1 1)) U U' → Same u 19 h0 h' → AW l G mX7_day d 0 0 Q 0 0 h' [some (.ref u), some (.int cur), some (.int (nI i)), o3] [] 167) (hk : MK n (U1.1 1) U U1) (hM : MAt h u U1) (hs : Same u 19 h0 h) : AW l G mX7_day d 0 0 Q 0 0 h [some (.ref u), some (.int cur), some (.int (nI i)), o3] [] 143 := by
  refine aw_aload_n (pc' := 144) eX7_day_143 rfl rfl trivial ?_
  refine aw_iload_n (pc' := 145) eX7_day_144 rfl rfl ?_
  refine aw_iconst (pc' := 146) (v := 1) eX7_day_145 rfl (by decide) ?_
  refine aw_callv (pc' := 149) (nn := 2) (c_isAs (d := d - 1) hM i 1 (by omega) (by omega)) eX7_day_146 rfl ⟨q957, q960, q62⟩ q959 q36 ⟨rfl, by decide +kernel, by decide +kernel, by decide +kernel⟩ rfl (by rw [hM.2.1]; exact ⟨rfl, rfl⟩) rfl ⟨by omega, by decide⟩ ⟨by omega, by omega⟩ rfl (Nat.le_of_ble_eq_true rfl) (fun v1 h2 hq3 => ?_)
  obtain ⟨rfl, rfl⟩ := hq3
  dsimp only [Option.toList, List.cons_append, List.nil_append]
  refine aw_if_eq (pc' := 152) (tgt := 167) eX7_day_149 rfl (by decide) (fun c_149 => ?_) (fun c_149 => ?_)
  · simp only [zb_eq0, Bool.not_eq_false, Bool.not_eq_true, decide_eq_true_eq, decide_eq_false_iff_not, Decidable.not_not] at c_149
    exact kk _ _ hM (by rw [sD3, if_neg c_149]; exact hk) hs
  · refine aw_aload_n (pc' := 153) eX7_day_152 rfl rfl trivial ?_
    refine aw_iload_n (pc' := 154) eX7_day_153 rfl rfl ?_
    refine aw_iconst (pc' := 155) (v := 4) eX7_day_154 rfl (by decide) ?_
    refine aw_aload_n (pc' := 156) eX7_day_155 rfl rfl trivial ?_
    refine aw_iload_n (pc' := 157) eX7_day_156 rfl rfl ?_
    refine aw_iconst (pc' := 158) (v := 4) eX7_day_157 rfl (by decide) ?_
    refine aw_callv (pc' := 161) (nn := 2) (c_one (d := d - 1) hM i 4 (by omega) (by omega)) eX7_day_158 rfl ⟨q901, q904, q62⟩ q903 q22 ⟨rfl, by decide +kernel, by decide +kernel, by decide +kernel⟩ rfl (by rw [hM.2.1]; exact ⟨rfl, rfl⟩) rfl ⟨by omega, by decide⟩ ⟨by omega, by omega⟩ rfl (Nat.le_of_ble_eq_true rfl) (fun v4 h5 hq6 => ?_)
    obtain ⟨rfl, rfl⟩ := hq6
    dsimp only [Option.toList, List.cons_append, List.nil_append]
    refine aw_iconst (pc' := 162) (v := 1) eX7_day_161 rfl (by decide) ?_
    refine aw_iadd (pc' := 163) eX7_day_162 rfl ?_
    refine aw_callv (pc' := 166) (nn := 3) (c_change (d := d - 1) hM i 4 _ (by omega) (by omega)) eX7_day_163 rfl ⟨q986, q989, q62⟩ q988 q43 ⟨rfl, by decide +kernel, by decide +kernel, by decide +kernel⟩ rfl (by rw [hM.2.1]; exact ⟨rfl, rfl⟩) rfl ⟨by omega, by decide⟩ ⟨by omega, by omega⟩ rfl (Nat.le_of_ble_eq_true rfl) (fun v9 h10 hq11 => ?_)
    obtain ⟨rfl, hM7, hs8⟩ := hq11
    dsimp only [Option.toList, List.cons_append, List.nil_append]
    refine aw_pop (pc' := 167) eX7_day_166 rfl rfl ?_
    simp only [zb_eq0, Bool.not_eq_false, Bool.not_eq_true, decide_eq_true_eq, decide_eq_false_iff_not, Decidable.not_not] at c_149
    exact kk _ _ hM7 (by rw [sD3, if_pos c_149]; exact hk.up) (hs.tr hs8)
theorem lp_X7_day (hm : g 60 = nI m) (hm6 : m ≤ 6) {cur : Int32} (hd : 2 ≤ d) {h0 : Hp} (hQ : ∀ h' U' o, MAt h' u U' → MK n (sDs cur g m) U U' → Same u 19 h0 h' → AW l G mX7_day d 0 0 Q 0 0 h' [some (.ref u), some (.int cur), some (.int (nI m)), o] [] 173) : ∀ (j i : Nat) (y : Int32) (o : Option Value) (h : Hp) (U1 : MS), j = m - i → i ≤ m → y = nI i → MK n (sDs cur g i) U U1 → MAt h u U1 → Same u 19 h0 h → AW l G mX7_day d 0 0 Q 0 0 h [some (.ref u), some (.int cur), some (.int y), o] [] 43 := by
  intro j
  induction j using Nat.strongRecOn with
  | _ j ih =>
    intro i y o h U1 hj hi hy hk hM hs
    subst hy
    have e60 : sDs cur g i 60 = nI m := (sDs_hi (by omega) i (by omega)).trans hm
    refine aw_iload_n (pc' := 44) eX7_day_43 rfl rfl ?_
    refine aw_aload_n (pc' := 45) eX7_day_44 rfl rfl trivial ?_
    refine aw_Mref (pc' := 48) (kf := 0) 1 hM eX7_day_45 rfl (by decide) rfl q789 ?_
    refine aw_bipush (pc' := 50) (v := 60) eX7_day_48 rfl (by decide) ?_
    refine aw_MaldC (pc' := 51) 1 60 hM eX7_day_50 rfl (by decide) (by unfold vp_in; decide) (by decide) ?_
    refine aw_icmp_ge (pc' := 54) (tgt := 173) eX7_day_51 rfl (by decide) (fun c_51 => ?_) (fun c_51 => ?_)
    · rw [hk.1, e60] at c_51
      have c9 := ge_nI (by omega) (by omega) c_51
      obtain rfl : i = m := by omega
      exact hQ _ _ _ hM hk hs
    · rw [hk.1, e60] at c_51
      have c9 := nge_nI (by omega) (by omega) c_51
      refine dy1 (n := n) (i := i) (by omega) (by omega) (fun h1 V1 o m1 k1 s1 => ?_) _ (by rw [hk.1]; exact hk) hM hs
      rw [hk.1] at k1
      refine dy2 (n := n) (i := i) (by omega) (by omega) _ (fun h2 V2 m2 k2 s2 => ?_) (by rw [k1.1]; exact k1) m1 s1
      rw [k1.1] at k2
      refine dy3 (n := n) (i := i) (by omega) (by omega) _ (fun h3 V3 m3 k3 s3 => ?_) (by rw [k2.1]; exact k2) m2 s2
      rw [k2.1] at k3
      refine aw_iinc (pc' := 170) eX7_day_167 rfl rfl rfl (by decide) ?_
      dsimp only [zst, zst2, zcut]
      refine aw_goto eX7_day_170 (by decide) (tgt := 43) ?_
      exact ih (m - (i + 1)) (by omega) (i + 1) _ _ _ _ rfl (by omega) (nI_inc i) k3 m3 s3
theorem c_X7_day (hk : MK n g U U1) (hM : MAt h u U1) (hz : mZ U) (hg : gOk g m t) (hd : 24 ≤ d) : Ct l G mX7_day yX7_day d 0 0 [.ref u] h (fun r h' => r = none ∧ ∃ U', MAt h' u U' ∧ MK n (sDay (mRd U) m t g) U U' ∧ Same u 19 h h') := by
  refine ct_of (lv := [some (.ref u), none, none, none]) (by decide +kernel) rfl (fun z => by cases z) (fun _ => rfl) (fun _ => Nat.le_of_ble_eq_true rfl) ?_
  have hgg := hg
  obtain ⟨hm, hm6, ht, ht2, hgq⟩ := hgg
  refine aw_aload_n (pc' := 1) eX7_day_0 rfl rfl trivial ?_
  refine aw_callv (pc' := 4) (nn := 0) (c_X7_bringUp (d := d - 1) hk hM hz hg (by omega)) eX7_day_1 rfl ⟨q974, q977, q62⟩ q976 q40 ⟨rfl, by decide +kernel, by decide +kernel, by decide +kernel⟩ rfl (by rw [hM.2.1]; exact ⟨rfl, rfl⟩) rfl ⟨by omega, by decide⟩ ⟨by omega, by omega⟩ rfl (Nat.le_of_ble_eq_true rfl) (fun v3 h4 hq5 => ?_)
  obtain ⟨rfl, V, hM1, k2, hs2⟩ := hq5
  dsimp only [Option.toList, List.cons_append, List.nil_append]
  have e67 : V.1 1 67 = nI t := by rw [k2.1, sBring_hi hm6 (by omega)]; exact ht
  have e4 : V.1 1 67 - V.1 1 67 / 4 * 4 = nI (t % 4) := by rw [e67]; exact pk_rem (d := 4) (by omega) (by omega) (by omega)
  have hx63 : (63 + nI (t % 4)).toNatClampNeg = 63 + t % 4 := (ixa (c := 63) (by omega)).1
  have hv63 : vp_in (63 + nI (t % 4)) 123 := (ixa (c := 63) (by omega)).2
  refine aw_aload_n (pc' := 5) eX7_day_4 rfl rfl trivial ?_
  refine aw_Mref (pc' := 8) (kf := 0) 1 hM1 eX7_day_5 rfl (by decide) rfl q789 ?_
  refine aw_bipush (pc' := 10) (v := 63) eX7_day_8 rfl (by decide) ?_
  refine aw_aload_n (pc' := 11) eX7_day_10 rfl rfl trivial ?_
  refine aw_Mref (pc' := 14) (kf := 0) 1 hM1 eX7_day_11 rfl (by decide) rfl q789 ?_
  refine aw_bipush (pc' := 16) (v := 67) eX7_day_14 rfl (by decide) ?_
  refine aw_MaldC (pc' := 17) 1 67 hM1 eX7_day_16 rfl (by decide) (by unfold vp_in; decide) (by decide) ?_
  refine aw_iconst (pc' := 18) (v := 4) eX7_day_17 rfl (by decide) ?_
  refine aw_irem (pc' := 19) eX7_day_18 rfl (by decide) ?_
  rw [e4]
  refine aw_iadd (pc' := 20) eX7_day_19 rfl ?_
  refine aw_MaldC (pc' := 21) 1 (63 + t % 4) hM1 eX7_day_20 rfl (by decide) hv63 hx63 ?_
  refine aw_istore_n (pc' := 22) eX7_day_21 rfl (by decide) ?_
  dsimp only [zst, zst2, zcut]
  refine aw_aload_n (pc' := 23) eX7_day_22 rfl rfl trivial ?_
  refine aw_Mref (pc' := 26) (kf := 0) 1 hM1 eX7_day_23 rfl (by decide) rfl q789 ?_
  refine aw_bipush (pc' := 28) (v := 62) eX7_day_26 rfl (by decide) ?_
  refine aw_aload_n (pc' := 29) eX7_day_28 rfl rfl trivial ?_
  refine aw_Mref (pc' := 32) (kf := 0) 1 hM1 eX7_day_29 rfl (by decide) rfl q789 ?_
  refine aw_bipush (pc' := 34) (v := 62) eX7_day_32 rfl (by decide) ?_
  refine aw_MaldC (pc' := 35) 1 62 hM1 eX7_day_34 rfl (by decide) (by unfold vp_in; decide) (by decide) ?_
  refine aw_iconst (pc' := 36) (v := 1) eX7_day_35 rfl (by decide) ?_
  refine aw_iadd (pc' := 37) eX7_day_36 rfl ?_
  refine aw_bipush (pc' := 39) (v := 12) eX7_day_37 rfl (by decide) ?_
  refine aw_irem (pc' := 40) eX7_day_39 rfl (by decide) ?_
  refine aw_MastC (pc' := 41) 1 62 hM1 eX7_day_40 rfl (by decide) (by unfold vp_in; decide) (by decide) (fun h8 hM6 hs7 => ?_)
  have hT9 := hs2.tr hs7
  refine aw_iconst (pc' := 42) (v := 0) eX7_day_41 rfl (by decide) ?_
  refine aw_istore_n (pc' := 43) eX7_day_42 rfl (by decide) ?_
  dsimp only [zst, zst2, zcut]
  have eC : V.1 1 (63 + t % 4) = g (63 + t % 4) := by rw [k2.1, sBring_hi hm6 (by omega)]
  have eD : sDay (mRd U) m t g = upd (sDs (V.1 1 (63 + t % 4)) (sFi (V.1 1)) m) 67 (nI (t + 1)) := by rw [sDay, eC, k2.1]
  have kf : MK n (sFi (V.1 1)) U (mup V 1 62 (jr (V.1 1 62 + 1) 12)) := MK.up (by rw [k2.1]; exact k2)
  refine lp_X7_day (n := n) (U := U) (g := sFi (V.1 1)) (cur := V.1 1 (63 + t % 4)) (by rw [sFi, upd_ne (by decide), k2.1, sBring_hi hm6 (by omega)]; exact hm) hm6 (by omega) (fun h' V9 o m9 k9 s9 => ?_) m 0 _ _ _ _ (by omega) (by omega) rfl kf hM6 hT9
  refine aw_aload_n (pc' := 174) eX7_day_173 rfl rfl trivial ?_
  refine aw_Mref (pc' := 177) (kf := 0) 1 m9 eX7_day_174 rfl (by decide) rfl q789 ?_
  refine aw_bipush (pc' := 179) (v := 67) eX7_day_177 rfl (by decide) ?_
  refine aw_dup2 (pc' := 180) eX7_day_179 rfl rfl rfl ?_
  refine aw_MaldC (pc' := 181) 1 67 m9 eX7_day_180 rfl (by decide) (by unfold vp_in; decide) (by decide) ?_
  refine aw_iconst (pc' := 182) (v := 1) eX7_day_181 rfl (by decide) ?_
  refine aw_iadd (pc' := 183) eX7_day_182 rfl ?_
  refine aw_MastC (pc' := 184) 1 67 m9 eX7_day_183 rfl (by decide) (by unfold vp_in; decide) (by decide) (fun h3 hM1 hs2 => ?_)
  have hT4 := s9.tr hs2
  refine aw_ret (v := none) eX7_day_184 rfl (by omega) (by omega) rfl ?_
  exact ⟨rfl, _, hM1, by
    have z := k9.up (k := 67) (x := nI (t + 1))
    rw [← eD] at z
    have y : (V9.1 1 67 : Int32) + 1 = nI (t + 1) := by rw [k9.1, k2.1, sDs_hi (by omega) m hm6, sFi, upd_ne (by decide), sBring_hi hm6 (by omega), ht]; exact nI_1 t
    rw [y]
    exact z, hT4⟩
abbrev mX7_days : MT := (RX7, cX7_days, 3, none, false)
theorem eX7_days_0 : decode mX7_days.2.1 0 = .ok (.iconst 0, 1) := by decide +kernel
theorem eX7_days_1 : decode mX7_days.2.1 1 = .ok (.istore_n 2, 1) := by decide +kernel
theorem eX7_days_2 : decode mX7_days.2.1 2 = .ok (.iload_n 2, 1) := by decide +kernel
theorem eX7_days_3 : decode mX7_days.2.1 3 = .ok (.iload_n 1, 1) := by decide +kernel
theorem eX7_days_4 : decode mX7_days.2.1 4 = .ok (.if_icmp .ge 13, 3) := by decide +kernel
theorem eX7_days_7 : decode mX7_days.2.1 7 = .ok (.aload_n 0, 1) := by decide +kernel
theorem eX7_days_8 : decode mX7_days.2.1 8 = .ok (.invokevirtual 200, 3) := by decide +kernel
theorem eX7_days_11 : decode mX7_days.2.1 11 = .ok (.iinc 2 1, 3) := by decide +kernel
theorem eX7_days_14 : decode mX7_days.2.1 14 = .ok (.goto (-12), 3) := by decide +kernel
theorem eX7_days_17 : decode mX7_days.2.1 17 = .ok (.return_, 1) := by decide +kernel
theorem lp_X7_days (hz : mZ U) (hd : 25 ≤ d) {x : Nat} (hx : x ≤ 1000) {h0 : Hp} : ∀ (k q t : Nat) (y : Int32) (g : Nat → Int32) (h : Hp) (U1 : MS), q + k = x → y = nI q → gOk g m t → t + k ≤ 1073741824 → MK n g U U1 → MAt h u U1 → Same u 19 h0 h → (∀ h' U', MAt h' u U' → MK n (sDys (mRd U) m k t g) U U' → Same u 19 h0 h' → Q none h') → AW l G mX7_days d 0 0 Q 0 0 h [some (.ref u), some (.int (nI x)), some (.int y)] [] 2 := by
  intro k
  induction k using Nat.strongRecOn with
  | _ k ih =>
    intro q t y g h U1 hqk hy hg htk hk hM hs hQ
    subst hy
    refine aw_iload_n (pc' := 3) eX7_days_2 rfl rfl ?_
    refine aw_iload_n (pc' := 4) eX7_days_3 rfl rfl ?_
    refine aw_icmp_ge (pc' := 7) (tgt := 17) eX7_days_4 rfl (by decide) (fun c_4 => ?_) (fun c_4 => ?_)
    · refine aw_ret (v := none) eX7_days_17 rfl (by omega) (by omega) rfl ?_
      have c9 := ge_nI (by omega) (by omega) c_4
      obtain rfl : k = 0 := by omega
      exact hQ _ _ hM hk hs
    · have c9 := nge_nI (by omega) (by omega) c_4
      refine aw_aload_n (pc' := 8) eX7_days_7 rfl rfl trivial ?_
      refine aw_callv (pc' := 11) (nn := 0) (c_X7_day (d := d - 1) hk hM hz hg (by omega)) eX7_days_8 rfl ⟨q970, q973, q62⟩ q972 q39 ⟨rfl, by decide +kernel, by decide +kernel, by decide +kernel⟩ rfl (by rw [hM.2.1]; exact ⟨rfl, rfl⟩) rfl ⟨by omega, by decide⟩ ⟨by omega, by omega⟩ rfl (Nat.le_of_ble_eq_true rfl) (fun v3 h4 hq5 => ?_)
      obtain ⟨rfl, V, hM1, k2, hs2⟩ := hq5
      dsimp only [Option.toList, List.cons_append, List.nil_append]
      refine aw_iinc (pc' := 14) eX7_days_11 rfl rfl rfl (by decide) ?_
      dsimp only [zst, zst2, zcut]
      refine aw_goto eX7_days_14 (by decide) (tgt := 2) ?_
      obtain ⟨j, rfl⟩ : ∃ j, k = j + 1 := ⟨k - 1, by omega⟩
      exact ih j (by omega) (q + 1) (t + 1) _ _ _ _ (by omega) (nI_inc q) (sDay_ok hg (by omega)) (by omega) k2 hM1 (hs.tr hs2) hQ
theorem c_X7_days (hk : MK n g U U1) (hM : MAt h u U1) (hz : mZ U) (hg : gOk g m t) {x : Nat} (hx : x ≤ 1000) (htx : t + x ≤ 1073741824) (hd : 25 ≤ d) : Ct l G mX7_days yX7_days d 0 0 [.ref u, .int (nI x)] h (fun r h' => r = none ∧ ∃ U', MAt h' u U' ∧ MK n (sDys (mRd U) m x t g) U U' ∧ Same u 19 h h') := by
  refine ct_of (lv := [some (.ref u), some (.int (nI x)), none]) (by decide +kernel) rfl (fun z => by cases z) (fun _ => rfl) (fun _ => Nat.le_of_ble_eq_true rfl) ?_
  refine aw_iconst (pc' := 1) (v := 0) eX7_days_0 rfl (by decide) ?_
  refine aw_istore_n (pc' := 2) eX7_days_1 rfl (by decide) ?_
  dsimp only [zst, zst2, zcut]
  exact lp_X7_days hz hd hx x 0 t _ g _ _ (by omega) rfl hg htx hk hM Same.rf (fun h' U' a b c => ⟨rfl, U', a, b, c⟩)
end M15
