/-! the class: one World becomes as another; Rows -/
section C5
variable {F : FT} {l : Launch} {G : GT} {M : MT} {w w2 : Nat} {d mc ms k n m t pc pc' : Nat} {g : Nat → Int32} {o o2 : Int32} {h : Hp} {Q : Option Value → Hp → Prop} {lv : LV} {st : List Value} {S S2 : WT}
def wcp (S : WT) (k : Nat) (f : Nat → Int32) : WT := (fun j => if j = k then f else S.1 j, S.2)
theorem wlen_le (k : Nat) : wlen k ≤ 24 := by
  unfold wlen
  split
  · omega
  · split <;> omega
theorem WAt.cp {h h' : Hp} {k : Nat} {f f' : Nat → Int32} (hW : WAt h w S) (h1 : 1 ≤ k) (hs : Same (w + k) 1 h h') (hO : OA h' (w + k) (.inl (0, (wlen k, .inl f')))) (hf : ∀ i, i < wlen k → f' i = f i) : WAt h' w (wcp S k f) := by
  refine ⟨hW.1, (hs.2 w (by omega)).trans hW.2.1, fun j j1 j9 => ?_, hW.2.2.2⟩
  by_cases e : j = k
  · subst e
    refine ⟨f', hO.1, fun i hi => ?_⟩
    show f' i = (if j = j then f else S.1 j) i
    rw [if_pos rfl]
    exact hf i hi
  · obtain ⟨f2, e1, e2⟩ := hW.2.2.1 j j1 j9
    refine ⟨f2, (hs.2 (w + j) (by omega)).trans e1, fun i hi => ?_⟩
    show f2 i = (if j = k then f else S.1 j) i
    rw [if_neg e]
    exact e2 i hi
theorem WAt.ex3 {S S' : WT} (hW : WAt h w S) (e : wfs w S = wfs w S') (hz : zisr S'.2.2) (he : ∀ k, 1 ≤ k → k ≤ 9 → ∀ i, i < wlen k → S.1 k i = S'.1 k i) : WAt h w S' :=
  ⟨hW.1, by rw [← e]; exact hW.2.1, fun k h1 h9 => by
    obtain ⟨f, e1, e2⟩ := hW.2.2.1 k h1 h9
    exact ⟨f, e1, fun i hi => (e2 i hi).trans (he k h1 h9 i hi)⟩, hz⟩
theorem aw_Wcp {idx kf : Nat} {nn : Int32} (hD : WAt h w S) (hV : WAt h w2 S2) (hd : decode M.2.1 pc = .ok (.invokestatic idx, 3)) (hn : pc + 3 = pc') (hw : Cond.methodLink M.1 idx arraycopyName ∈ TB) (hw2 : Cond.native arraycopyName ∈ TB) (hw3 : Cond.static arraycopyName ∈ TB) (hw4 : Cond.initialized "java/lang/System" ∈ TB)
    (hk : 1 ≤ kf ∧ kf ≤ 9) (en : nn = nI (wlen kf)) (hd1 : 1 ≤ d) (hsm : (st.map fun v => v.category).sum ≤ 8)
    (kk : ∀ h', WAt h' w (wcp S kf (S2.1 kf)) → Same w 10 h h' → AW l G M d mc ms Q k n h' lv st pc') : AW l G M d mc ms Q k n h lv (.int nn :: .int 0 :: .ref (w + kf) :: .int 0 :: .ref (w2 + kf) :: st) pc := by
  obtain ⟨f0, a1, a2⟩ := hV.2.2.1 kf hk.1 hk.2
  obtain ⟨f1, b1, b2⟩ := hD.2.2.1 kf hk.1 hk.2
  have h16 := hD.1
  have h162 := hV.1
  have hl := wlen_le kf
  exact aw_Acpi (s0 := 0) (s1 := 0) (c := wlen kf) ⟨a1, by omega⟩ ⟨b1, by omega⟩ hd hn hw hw2 hw3 hw4 rfl rfl en ⟨by omega, by omega, by omega, by omega⟩ hd1 hsm fun h' hO hs => kk h' (hD.cp hk.1 hs hO fun i hi => by
    show (if 0 ≤ i ∧ i < 0 + wlen kf then f0 (0 + (i - 0)) else f1 i) = _
    rw [if_pos (by omega), Nat.zero_add, Nat.sub_zero]
    exact a2 i hi) (hs.w (by omega) (by omega))
/-- some World, of which only the last age is known -/
def DT (h : Hp) (w : Nat) (o : Int32) : Prop := ∃ S, WAt h w S ∧ S.2.1 0 = o
theorem WF.dt (hW : WF F h w g o) : DT h w o := by
  obtain ⟨h1, L, v, sd, hG, hS, hF⟩ := hW
  exact ⟨_, hG, rfl⟩
theorem DT.fr {h' : Hp} {w2 n : Nat} (hW : DT h w o) (hs : Same w2 n h h') (hd : w + 10 ≤ w2 ∨ w2 + n ≤ w) : DT h' w o := by
  obtain ⟨S, a, b⟩ := hW
  exact ⟨S, a.fr hs hd, b⟩
theorem DT.ob (hW : DT h w o) : zOb (h.2 w) 5 15 := by
  obtain ⟨S, a, b⟩ := hW
  rw [a.2.1]
  exact ⟨rfl, rfl⟩
/-- rows told by hand: so many at most, so many, what they hold -/
def RAt (h : Hp) (a most n : Nat) (f : Nat → Int32) : Prop := OA h a (.inr (1, [.int (nI most), .ref (a + 1), .int (nI n)])) ∧ OA h (a + 1) (.inl (0, (3 * most, .inl f)))
theorem RAt.fr {h' : Hp} {a most n w2 N : Nat} {f : Nat → Int32} (hR : RAt h a most n f) (hs : Same w2 N h h') (hd : a + 2 ≤ w2 ∨ w2 + N ≤ a) : RAt h' a most n f := ⟨hR.1.fr hs (by omega), hR.2.fr hs (by omega)⟩
theorem RAt.ob {a most n : Nat} {f : Nat → Int32} (hR : RAt h a most n f) : zOb (h.2 a) 1 3 := by
  rw [hR.1.1]
  exact ⟨rfl, rfl⟩
theorem ix3r {r c : Nat} (h : 3 * r + c < 2147483648) : nI r * 3 + nI c = nI (3 * r + c) := by
  have e : nI r * 3 + nI c = nI (r * 3 + c) := nI_muladd r 3 c
  rw [e, Nat.mul_comm r 3]
theorem ix3z (r : Nat) : nI r * 3 = nI (3 * r) := by
  have e : nI r * 3 = nI (r * 3) := pk_mul r 3
  rw [e, Nat.mul_comm r 3]

abbrev mX5_becomes : MT := (RX5, cX5_becomes, 2, none, false)
theorem eX5_becomes_0 : decode mX5_becomes.2.1 0 = .ok (.aload_n 1, 1) := by decide +kernel
theorem eX5_becomes_1 : decode mX5_becomes.2.1 1 = .ok (.getfield 9, 3) := by decide +kernel
theorem eX5_becomes_4 : decode mX5_becomes.2.1 4 = .ok (.iconst 0, 1) := by decide +kernel
theorem eX5_becomes_5 : decode mX5_becomes.2.1 5 = .ok (.aload_n 0, 1) := by decide +kernel
theorem eX5_becomes_6 : decode mX5_becomes.2.1 6 = .ok (.getfield 9, 3) := by decide +kernel
theorem eX5_becomes_9 : decode mX5_becomes.2.1 9 = .ok (.iconst 0, 1) := by decide +kernel
theorem eX5_becomes_10 : decode mX5_becomes.2.1 10 = .ok (.bipush 6, 2) := by decide +kernel
theorem eX5_becomes_12 : decode mX5_becomes.2.1 12 = .ok (.invokestatic 69, 3) := by decide +kernel
theorem eX5_becomes_15 : decode mX5_becomes.2.1 15 = .ok (.aload_n 1, 1) := by decide +kernel
theorem eX5_becomes_16 : decode mX5_becomes.2.1 16 = .ok (.getfield 15, 3) := by decide +kernel
theorem eX5_becomes_19 : decode mX5_becomes.2.1 19 = .ok (.iconst 0, 1) := by decide +kernel
theorem eX5_becomes_20 : decode mX5_becomes.2.1 20 = .ok (.aload_n 0, 1) := by decide +kernel
theorem eX5_becomes_21 : decode mX5_becomes.2.1 21 = .ok (.getfield 15, 3) := by decide +kernel
theorem eX5_becomes_24 : decode mX5_becomes.2.1 24 = .ok (.iconst 0, 1) := by decide +kernel
theorem eX5_becomes_25 : decode mX5_becomes.2.1 25 = .ok (.bipush 6, 2) := by decide +kernel
theorem eX5_becomes_27 : decode mX5_becomes.2.1 27 = .ok (.invokestatic 69, 3) := by decide +kernel
theorem eX5_becomes_30 : decode mX5_becomes.2.1 30 = .ok (.aload_n 1, 1) := by decide +kernel
theorem eX5_becomes_31 : decode mX5_becomes.2.1 31 = .ok (.getfield 18, 3) := by decide +kernel
theorem eX5_becomes_34 : decode mX5_becomes.2.1 34 = .ok (.iconst 0, 1) := by decide +kernel
theorem eX5_becomes_35 : decode mX5_becomes.2.1 35 = .ok (.aload_n 0, 1) := by decide +kernel
theorem eX5_becomes_36 : decode mX5_becomes.2.1 36 = .ok (.getfield 18, 3) := by decide +kernel
theorem eX5_becomes_39 : decode mX5_becomes.2.1 39 = .ok (.iconst 0, 1) := by decide +kernel
theorem eX5_becomes_40 : decode mX5_becomes.2.1 40 = .ok (.bipush 6, 2) := by decide +kernel
theorem eX5_becomes_42 : decode mX5_becomes.2.1 42 = .ok (.invokestatic 69, 3) := by decide +kernel
theorem eX5_becomes_45 : decode mX5_becomes.2.1 45 = .ok (.aload_n 1, 1) := by decide +kernel
theorem eX5_becomes_46 : decode mX5_becomes.2.1 46 = .ok (.getfield 21, 3) := by decide +kernel
theorem eX5_becomes_49 : decode mX5_becomes.2.1 49 = .ok (.iconst 0, 1) := by decide +kernel
theorem eX5_becomes_50 : decode mX5_becomes.2.1 50 = .ok (.aload_n 0, 1) := by decide +kernel
theorem eX5_becomes_51 : decode mX5_becomes.2.1 51 = .ok (.getfield 21, 3) := by decide +kernel
theorem eX5_becomes_54 : decode mX5_becomes.2.1 54 = .ok (.iconst 0, 1) := by decide +kernel
theorem eX5_becomes_55 : decode mX5_becomes.2.1 55 = .ok (.bipush 6, 2) := by decide +kernel
theorem eX5_becomes_57 : decode mX5_becomes.2.1 57 = .ok (.invokestatic 69, 3) := by decide +kernel
theorem eX5_becomes_60 : decode mX5_becomes.2.1 60 = .ok (.aload_n 1, 1) := by decide +kernel
theorem eX5_becomes_61 : decode mX5_becomes.2.1 61 = .ok (.getfield 24, 3) := by decide +kernel
theorem eX5_becomes_64 : decode mX5_becomes.2.1 64 = .ok (.iconst 0, 1) := by decide +kernel
theorem eX5_becomes_65 : decode mX5_becomes.2.1 65 = .ok (.aload_n 0, 1) := by decide +kernel
theorem eX5_becomes_66 : decode mX5_becomes.2.1 66 = .ok (.getfield 24, 3) := by decide +kernel
theorem eX5_becomes_69 : decode mX5_becomes.2.1 69 = .ok (.iconst 0, 1) := by decide +kernel
theorem eX5_becomes_70 : decode mX5_becomes.2.1 70 = .ok (.bipush 6, 2) := by decide +kernel
theorem eX5_becomes_72 : decode mX5_becomes.2.1 72 = .ok (.invokestatic 69, 3) := by decide +kernel
theorem eX5_becomes_75 : decode mX5_becomes.2.1 75 = .ok (.aload_n 1, 1) := by decide +kernel
theorem eX5_becomes_76 : decode mX5_becomes.2.1 76 = .ok (.getfield 27, 3) := by decide +kernel
theorem eX5_becomes_79 : decode mX5_becomes.2.1 79 = .ok (.iconst 0, 1) := by decide +kernel
theorem eX5_becomes_80 : decode mX5_becomes.2.1 80 = .ok (.aload_n 0, 1) := by decide +kernel
theorem eX5_becomes_81 : decode mX5_becomes.2.1 81 = .ok (.getfield 27, 3) := by decide +kernel
theorem eX5_becomes_84 : decode mX5_becomes.2.1 84 = .ok (.iconst 0, 1) := by decide +kernel
theorem eX5_becomes_85 : decode mX5_becomes.2.1 85 = .ok (.bipush 6, 2) := by decide +kernel
theorem eX5_becomes_87 : decode mX5_becomes.2.1 87 = .ok (.invokestatic 69, 3) := by decide +kernel
theorem eX5_becomes_90 : decode mX5_becomes.2.1 90 = .ok (.aload_n 1, 1) := by decide +kernel
theorem eX5_becomes_91 : decode mX5_becomes.2.1 91 = .ok (.getfield 30, 3) := by decide +kernel
theorem eX5_becomes_94 : decode mX5_becomes.2.1 94 = .ok (.iconst 0, 1) := by decide +kernel
theorem eX5_becomes_95 : decode mX5_becomes.2.1 95 = .ok (.aload_n 0, 1) := by decide +kernel
theorem eX5_becomes_96 : decode mX5_becomes.2.1 96 = .ok (.getfield 30, 3) := by decide +kernel
theorem eX5_becomes_99 : decode mX5_becomes.2.1 99 = .ok (.iconst 0, 1) := by decide +kernel
theorem eX5_becomes_100 : decode mX5_becomes.2.1 100 = .ok (.bipush 24, 2) := by decide +kernel
theorem eX5_becomes_102 : decode mX5_becomes.2.1 102 = .ok (.invokestatic 69, 3) := by decide +kernel
theorem eX5_becomes_105 : decode mX5_becomes.2.1 105 = .ok (.aload_n 1, 1) := by decide +kernel
theorem eX5_becomes_106 : decode mX5_becomes.2.1 106 = .ok (.getfield 33, 3) := by decide +kernel
theorem eX5_becomes_109 : decode mX5_becomes.2.1 109 = .ok (.iconst 0, 1) := by decide +kernel
theorem eX5_becomes_110 : decode mX5_becomes.2.1 110 = .ok (.aload_n 0, 1) := by decide +kernel
theorem eX5_becomes_111 : decode mX5_becomes.2.1 111 = .ok (.getfield 33, 3) := by decide +kernel
theorem eX5_becomes_114 : decode mX5_becomes.2.1 114 = .ok (.iconst 0, 1) := by decide +kernel
theorem eX5_becomes_115 : decode mX5_becomes.2.1 115 = .ok (.iconst 4, 1) := by decide +kernel
theorem eX5_becomes_116 : decode mX5_becomes.2.1 116 = .ok (.invokestatic 69, 3) := by decide +kernel
theorem eX5_becomes_119 : decode mX5_becomes.2.1 119 = .ok (.aload_n 0, 1) := by decide +kernel
theorem eX5_becomes_120 : decode mX5_becomes.2.1 120 = .ok (.aload_n 1, 1) := by decide +kernel
theorem eX5_becomes_121 : decode mX5_becomes.2.1 121 = .ok (.getfield 49, 3) := by decide +kernel
theorem eX5_becomes_124 : decode mX5_becomes.2.1 124 = .ok (.putfield 49, 3) := by decide +kernel
theorem eX5_becomes_127 : decode mX5_becomes.2.1 127 = .ok (.aload_n 0, 1) := by decide +kernel
theorem eX5_becomes_128 : decode mX5_becomes.2.1 128 = .ok (.aload_n 1, 1) := by decide +kernel
theorem eX5_becomes_129 : decode mX5_becomes.2.1 129 = .ok (.getfield 53, 3) := by decide +kernel
theorem eX5_becomes_132 : decode mX5_becomes.2.1 132 = .ok (.putfield 53, 3) := by decide +kernel
theorem eX5_becomes_135 : decode mX5_becomes.2.1 135 = .ok (.aload_n 0, 1) := by decide +kernel
theorem eX5_becomes_136 : decode mX5_becomes.2.1 136 = .ok (.aload_n 1, 1) := by decide +kernel
theorem eX5_becomes_137 : decode mX5_becomes.2.1 137 = .ok (.getfield 56, 3) := by decide +kernel
theorem eX5_becomes_140 : decode mX5_becomes.2.1 140 = .ok (.putfield 56, 3) := by decide +kernel
theorem eX5_becomes_143 : decode mX5_becomes.2.1 143 = .ok (.aload_n 0, 1) := by decide +kernel
theorem eX5_becomes_144 : decode mX5_becomes.2.1 144 = .ok (.aload_n 1, 1) := by decide +kernel
theorem eX5_becomes_145 : decode mX5_becomes.2.1 145 = .ok (.getfield 59, 3) := by decide +kernel
theorem eX5_becomes_148 : decode mX5_becomes.2.1 148 = .ok (.putfield 59, 3) := by decide +kernel
theorem eX5_becomes_151 : decode mX5_becomes.2.1 151 = .ok (.aload_n 0, 1) := by decide +kernel
theorem eX5_becomes_152 : decode mX5_becomes.2.1 152 = .ok (.aload_n 1, 1) := by decide +kernel
theorem eX5_becomes_153 : decode mX5_becomes.2.1 153 = .ok (.getfield 62, 3) := by decide +kernel
theorem eX5_becomes_156 : decode mX5_becomes.2.1 156 = .ok (.putfield 62, 3) := by decide +kernel
theorem eX5_becomes_159 : decode mX5_becomes.2.1 159 = .ok (.return_, 1) := by decide +kernel
theorem c_X5_becomes (hW : WF F h w2 g o2) (hD : DT h w o) (hw : w + 10 ≤ 96) (hne : w + 10 ≤ w2 ∨ w2 + 10 ≤ w) (hd : 1 ≤ d) : Ct l G mX5_becomes yX5_becomes d 0 0 [.ref w, .ref w2] h (fun r h' => r = none ∧ WF F h' w g o ∧ Same w 10 h h') := by
  refine ct_of (lv := [some (.ref w), some (.ref w2)]) (by decide +kernel) rfl (fun z => by cases z) (fun _ => rfl) (fun _ => Nat.le_of_ble_eq_true rfl) ?_
  obtain ⟨h1, L, v, sd, hV, hS, hF⟩ := hW
  obtain ⟨S, hD, rfl⟩ := hD
  refine aw_aload_n (pc' := 1) eX5_becomes_0 rfl rfl trivial ?_
  refine aw_Wref (pc' := 4) (kf := 1) hV eX5_becomes_1 rfl (by decide) q98 ?_
  refine aw_iconst (pc' := 5) (v := 0) eX5_becomes_4 rfl (by decide) ?_
  refine aw_aload_n (pc' := 6) eX5_becomes_5 rfl rfl trivial ?_
  refine aw_Wref (pc' := 9) (kf := 1) hD eX5_becomes_6 rfl (by decide) q98 ?_
  refine aw_iconst (pc' := 10) (v := 0) eX5_becomes_9 rfl (by decide) ?_
  refine aw_bipush (pc' := 12) (v := 6) eX5_becomes_10 rfl (by decide) ?_
  refine aw_Wcp (pc' := 15) (kf := 1) hD hV eX5_becomes_12 rfl q336 q338 q337 q64 (by decide) rfl (by omega) (Nat.le_of_ble_eq_true rfl) (fun h3 hW1 hs2 => ?_)
  have hF4 := hV.fr hs2 (by omega)
  refine aw_aload_n (pc' := 16) eX5_becomes_15 rfl rfl trivial ?_
  refine aw_Wref (pc' := 19) (kf := 2) hF4 eX5_becomes_16 rfl (by decide) q100 ?_
  refine aw_iconst (pc' := 20) (v := 0) eX5_becomes_19 rfl (by decide) ?_
  refine aw_aload_n (pc' := 21) eX5_becomes_20 rfl rfl trivial ?_
  refine aw_Wref (pc' := 24) (kf := 2) hW1 eX5_becomes_21 rfl (by decide) q100 ?_
  refine aw_iconst (pc' := 25) (v := 0) eX5_becomes_24 rfl (by decide) ?_
  refine aw_bipush (pc' := 27) (v := 6) eX5_becomes_25 rfl (by decide) ?_
  refine aw_Wcp (pc' := 30) (kf := 2) hW1 hF4 eX5_becomes_27 rfl q336 q338 q337 q64 (by decide) rfl (by omega) (Nat.le_of_ble_eq_true rfl) (fun h7 hW5 hs6 => ?_)
  have hT8 := hs2.tr hs6
  have hF9 := hF4.fr hs6 (by omega)
  refine aw_aload_n (pc' := 31) eX5_becomes_30 rfl rfl trivial ?_
  refine aw_Wref (pc' := 34) (kf := 3) hF9 eX5_becomes_31 rfl (by decide) q102 ?_
  refine aw_iconst (pc' := 35) (v := 0) eX5_becomes_34 rfl (by decide) ?_
  refine aw_aload_n (pc' := 36) eX5_becomes_35 rfl rfl trivial ?_
  refine aw_Wref (pc' := 39) (kf := 3) hW5 eX5_becomes_36 rfl (by decide) q102 ?_
  refine aw_iconst (pc' := 40) (v := 0) eX5_becomes_39 rfl (by decide) ?_
  refine aw_bipush (pc' := 42) (v := 6) eX5_becomes_40 rfl (by decide) ?_
  refine aw_Wcp (pc' := 45) (kf := 3) hW5 hF9 eX5_becomes_42 rfl q336 q338 q337 q64 (by decide) rfl (by omega) (Nat.le_of_ble_eq_true rfl) (fun h12 hW10 hs11 => ?_)
  have hT13 := hT8.tr hs11
  have hF14 := hF9.fr hs11 (by omega)
  refine aw_aload_n (pc' := 46) eX5_becomes_45 rfl rfl trivial ?_
  refine aw_Wref (pc' := 49) (kf := 4) hF14 eX5_becomes_46 rfl (by decide) q104 ?_
  refine aw_iconst (pc' := 50) (v := 0) eX5_becomes_49 rfl (by decide) ?_
  refine aw_aload_n (pc' := 51) eX5_becomes_50 rfl rfl trivial ?_
  refine aw_Wref (pc' := 54) (kf := 4) hW10 eX5_becomes_51 rfl (by decide) q104 ?_
  refine aw_iconst (pc' := 55) (v := 0) eX5_becomes_54 rfl (by decide) ?_
  refine aw_bipush (pc' := 57) (v := 6) eX5_becomes_55 rfl (by decide) ?_
  refine aw_Wcp (pc' := 60) (kf := 4) hW10 hF14 eX5_becomes_57 rfl q336 q338 q337 q64 (by decide) rfl (by omega) (Nat.le_of_ble_eq_true rfl) (fun h17 hW15 hs16 => ?_)
  have hT18 := hT13.tr hs16
  have hF19 := hF14.fr hs16 (by omega)
  refine aw_aload_n (pc' := 61) eX5_becomes_60 rfl rfl trivial ?_
  refine aw_Wref (pc' := 64) (kf := 5) hF19 eX5_becomes_61 rfl (by decide) q106 ?_
  refine aw_iconst (pc' := 65) (v := 0) eX5_becomes_64 rfl (by decide) ?_
  refine aw_aload_n (pc' := 66) eX5_becomes_65 rfl rfl trivial ?_
  refine aw_Wref (pc' := 69) (kf := 5) hW15 eX5_becomes_66 rfl (by decide) q106 ?_
  refine aw_iconst (pc' := 70) (v := 0) eX5_becomes_69 rfl (by decide) ?_
  refine aw_bipush (pc' := 72) (v := 6) eX5_becomes_70 rfl (by decide) ?_
  refine aw_Wcp (pc' := 75) (kf := 5) hW15 hF19 eX5_becomes_72 rfl q336 q338 q337 q64 (by decide) rfl (by omega) (Nat.le_of_ble_eq_true rfl) (fun h22 hW20 hs21 => ?_)
  have hT23 := hT18.tr hs21
  have hF24 := hF19.fr hs21 (by omega)
  refine aw_aload_n (pc' := 76) eX5_becomes_75 rfl rfl trivial ?_
  refine aw_Wref (pc' := 79) (kf := 6) hF24 eX5_becomes_76 rfl (by decide) q108 ?_
  refine aw_iconst (pc' := 80) (v := 0) eX5_becomes_79 rfl (by decide) ?_
  refine aw_aload_n (pc' := 81) eX5_becomes_80 rfl rfl trivial ?_
  refine aw_Wref (pc' := 84) (kf := 6) hW20 eX5_becomes_81 rfl (by decide) q108 ?_
  refine aw_iconst (pc' := 85) (v := 0) eX5_becomes_84 rfl (by decide) ?_
  refine aw_bipush (pc' := 87) (v := 6) eX5_becomes_85 rfl (by decide) ?_
  refine aw_Wcp (pc' := 90) (kf := 6) hW20 hF24 eX5_becomes_87 rfl q336 q338 q337 q64 (by decide) rfl (by omega) (Nat.le_of_ble_eq_true rfl) (fun h27 hW25 hs26 => ?_)
  have hT28 := hT23.tr hs26
  have hF29 := hF24.fr hs26 (by omega)
  refine aw_aload_n (pc' := 91) eX5_becomes_90 rfl rfl trivial ?_
  refine aw_Wref (pc' := 94) (kf := 7) hF29 eX5_becomes_91 rfl (by decide) q110 ?_
  refine aw_iconst (pc' := 95) (v := 0) eX5_becomes_94 rfl (by decide) ?_
  refine aw_aload_n (pc' := 96) eX5_becomes_95 rfl rfl trivial ?_
  refine aw_Wref (pc' := 99) (kf := 7) hW25 eX5_becomes_96 rfl (by decide) q110 ?_
  refine aw_iconst (pc' := 100) (v := 0) eX5_becomes_99 rfl (by decide) ?_
  refine aw_bipush (pc' := 102) (v := 24) eX5_becomes_100 rfl (by decide) ?_
  refine aw_Wcp (pc' := 105) (kf := 7) hW25 hF29 eX5_becomes_102 rfl q336 q338 q337 q64 (by decide) rfl (by omega) (Nat.le_of_ble_eq_true rfl) (fun h32 hW30 hs31 => ?_)
  have hT33 := hT28.tr hs31
  have hF34 := hF29.fr hs31 (by omega)
  refine aw_aload_n (pc' := 106) eX5_becomes_105 rfl rfl trivial ?_
  refine aw_Wref (pc' := 109) (kf := 8) hF34 eX5_becomes_106 rfl (by decide) q112 ?_
  refine aw_iconst (pc' := 110) (v := 0) eX5_becomes_109 rfl (by decide) ?_
  refine aw_aload_n (pc' := 111) eX5_becomes_110 rfl rfl trivial ?_
  refine aw_Wref (pc' := 114) (kf := 8) hW30 eX5_becomes_111 rfl (by decide) q112 ?_
  refine aw_iconst (pc' := 115) (v := 0) eX5_becomes_114 rfl (by decide) ?_
  refine aw_iconst (pc' := 116) (v := 4) eX5_becomes_115 rfl (by decide) ?_
  refine aw_Wcp (pc' := 119) (kf := 8) hW30 hF34 eX5_becomes_116 rfl q336 q338 q337 q64 (by decide) rfl (by omega) (Nat.le_of_ble_eq_true rfl) (fun h37 hW35 hs36 => ?_)
  have hT38 := hT33.tr hs36
  have hF39 := hF34.fr hs36 (by omega)
  refine aw_aload_n (pc' := 120) eX5_becomes_119 rfl rfl trivial ?_
  refine aw_aload_n (pc' := 121) eX5_becomes_120 rfl rfl trivial ?_
  refine aw_Wint (pc' := 124) (kf := 10) hF39 eX5_becomes_121 rfl (by decide) q115 ?_
  refine aw_Wput (pc' := 127) 10 hW35 eX5_becomes_124 rfl (by decide) q115 (fun h42 hW40 hs41 => ?_)
  have hT43 := hT38.tr hs41
  have hF44 := hF39.fr hs41 (by omega)
  refine aw_aload_n (pc' := 128) eX5_becomes_127 rfl rfl trivial ?_
  refine aw_aload_n (pc' := 129) eX5_becomes_128 rfl rfl trivial ?_
  refine aw_Wint (pc' := 132) (kf := 11) hF44 eX5_becomes_129 rfl (by decide) q117 ?_
  refine aw_Wput (pc' := 135) 11 hW40 eX5_becomes_132 rfl (by decide) q117 (fun h47 hW45 hs46 => ?_)
  have hT48 := hT43.tr hs46
  have hF49 := hF44.fr hs46 (by omega)
  refine aw_aload_n (pc' := 136) eX5_becomes_135 rfl rfl trivial ?_
  refine aw_aload_n (pc' := 137) eX5_becomes_136 rfl rfl trivial ?_
  refine aw_Wint (pc' := 140) (kf := 12) hF49 eX5_becomes_137 rfl (by decide) q119 ?_
  refine aw_Wput (pc' := 143) 12 hW45 eX5_becomes_140 rfl (by decide) q119 (fun h52 hW50 hs51 => ?_)
  have hT53 := hT48.tr hs51
  have hF54 := hF49.fr hs51 (by omega)
  refine aw_aload_n (pc' := 144) eX5_becomes_143 rfl rfl trivial ?_
  refine aw_aload_n (pc' := 145) eX5_becomes_144 rfl rfl trivial ?_
  refine aw_Wint (pc' := 148) (kf := 13) hF54 eX5_becomes_145 rfl (by decide) q121 ?_
  refine aw_Wput (pc' := 151) 13 hW50 eX5_becomes_148 rfl (by decide) q121 (fun h57 hW55 hs56 => ?_)
  have hT58 := hT53.tr hs56
  have hF59 := hF54.fr hs56 (by omega)
  refine aw_aload_n (pc' := 152) eX5_becomes_151 rfl rfl trivial ?_
  refine aw_aload_n (pc' := 153) eX5_becomes_152 rfl rfl trivial ?_
  refine aw_Wsea (pc' := 156) hF59 eX5_becomes_153 rfl q123 ?_
  refine aw_Wpse (pc' := 159) hW55 eX5_becomes_156 rfl q123 hS.zr (fun h62 hW60 hs61 => ?_)
  have hT63 := hT58.tr hs61
  have hF64 := hF59.fr hs61 (by omega)
  refine aw_ret (v := none) eX5_becomes_159 rfl (by omega) (by omega) rfl ?_
  refine ⟨rfl, ⟨hw, S.1 9, v, sd, WAt.ex3 hW60 rfl hS.zr (fun k h1 h9 i hi => ?_), hS.fr hT63 hw, hF⟩, hT63⟩
  rcases (by omega : k = 1 ∨ k = 2 ∨ k = 3 ∨ k = 4 ∨ k = 5 ∨ k = 6 ∨ k = 7 ∨ k = 8 ∨ k = 9) with rfl | rfl | rfl | rfl | rfl | rfl | rfl | rfl | rfl <;> rfl
abbrev mX1_emptied : MT := (RX1, cX1_emptied, 1, (some .int), false)
theorem eX1_emptied_0 : decode mX1_emptied.2.1 0 = .ok (.aload_n 0, 1) := by decide +kernel
theorem eX1_emptied_1 : decode mX1_emptied.2.1 1 = .ok (.iconst 0, 1) := by decide +kernel
theorem eX1_emptied_2 : decode mX1_emptied.2.1 2 = .ok (.putfield 9, 3) := by decide +kernel
theorem eX1_emptied_5 : decode mX1_emptied.2.1 5 = .ok (.iconst 0, 1) := by decide +kernel
theorem eX1_emptied_6 : decode mX1_emptied.2.1 6 = .ok (.ireturn, 1) := by decide +kernel
theorem c_X1_emptied {a most n : Nat} {f : Nat → Int32} (hR : RAt h a most n f) (hd : 0 ≤ d) : Ct l G mX1_emptied yX1_emptied d 0 0 [.ref a] h (fun r h' => r = some (.int 0) ∧ RAt h' a most 0 f ∧ Same a 2 h h') := by
  refine ct_of (lv := [some (.ref a)]) (by decide +kernel) rfl (fun z => by cases z) (fun _ => rfl) (fun _ => Nat.le_of_ble_eq_true rfl) ?_
  refine aw_aload_n (pc' := 1) eX1_emptied_0 rfl rfl trivial ?_
  refine aw_iconst (pc' := 2) (v := 0) eX1_emptied_1 rfl (by decide) ?_
  refine aw_Oput (pc' := 5) (ci := 1) (kf := 2) (N := 3) (ty0 := tyX1) [.int (nI most), .ref (a + 1), .int (nI 0)] hR.1 eX1_emptied_2 rfl rfl rfl inX1 tyX1_ok nmX1 (by decide) q167 rfl (by first | trivial | exact Or.inl rfl | exact Or.inr rfl | (simp [zfit]; done)) rfl (fun h3 hO1 hs2 => ?_)
  have hz4 := hs2.w (w2 := a) (n2 := 2) (by omega) (by omega)
  have hF5 := hR.2.fr hs2 (by omega)
  refine aw_iconst (pc' := 6) (v := 0) eX1_emptied_5 rfl (by decide) ?_
  refine aw_ret (v := some (.int _)) eX1_emptied_6 ⟨rfl, rfl⟩ (by omega) (by omega) rfl ?_
  exact ⟨rfl, ⟨hO1, hF5⟩, hz4⟩
abbrev mX1_cell : MT := (RX1, cX1_cell, 3, (some .int), false)
theorem eX1_cell_0 : decode mX1_cell.2.1 0 = .ok (.aload_n 0, 1) := by decide +kernel
theorem eX1_cell_1 : decode mX1_cell.2.1 1 = .ok (.getfield 18, 3) := by decide +kernel
theorem eX1_cell_4 : decode mX1_cell.2.1 4 = .ok (.iload_n 1, 1) := by decide +kernel
theorem eX1_cell_5 : decode mX1_cell.2.1 5 = .ok (.iconst 3, 1) := by decide +kernel
theorem eX1_cell_6 : decode mX1_cell.2.1 6 = .ok (.imul, 1) := by decide +kernel
theorem eX1_cell_7 : decode mX1_cell.2.1 7 = .ok (.iload_n 2, 1) := by decide +kernel
theorem eX1_cell_8 : decode mX1_cell.2.1 8 = .ok (.iadd, 1) := by decide +kernel
theorem eX1_cell_9 : decode mX1_cell.2.1 9 = .ok (.iaload, 1) := by decide +kernel
theorem eX1_cell_10 : decode mX1_cell.2.1 10 = .ok (.ireturn, 1) := by decide +kernel
theorem c_X1_cell {a most n : Nat} {f : Nat → Int32} (hR : RAt h a most n f) {r c : Nat} (hrc : 3 * r + c < 3 * most) (hmost : most ≤ 100) (hd : 0 ≤ d) : Ct l G mX1_cell yX1_cell d 0 0 [.ref a, .int (nI r), .int (nI c)] h (fun x h' => x = some (.int (f (3 * r + c))) ∧ h' = h) := by
  refine ct_of (lv := [some (.ref a), some (.int (nI r)), some (.int (nI c))]) (by decide +kernel) rfl (fun z => by cases z) (fun _ => rfl) (fun _ => Nat.le_of_ble_eq_true rfl) ?_
  refine aw_aload_n (pc' := 1) eX1_cell_0 rfl rfl trivial ?_
  refine aw_Oget (pc' := 4) (ci := 1) (kf := 1) (N := 3) (.ref (a + 1)) hR.1 eX1_cell_1 rfl rfl rfl inX1 (by decide) q166 rfl ?_
  refine aw_iload_n (pc' := 5) eX1_cell_4 rfl rfl ?_
  refine aw_iconst (pc' := 6) (v := 3) eX1_cell_5 rfl (by decide) ?_
  refine aw_imul (pc' := 7) eX1_cell_6 rfl ?_
  refine aw_iload_n (pc' := 8) eX1_cell_7 rfl rfl ?_
  refine aw_iadd (pc' := 9) eX1_cell_8 rfl ?_
  rw [ix3r (by omega)]
  refine aw_Ail (pc' := 10) (3 * r + c) hR.2 eX1_cell_9 rfl (show vp_in _ (3 * most) from vp_in_nI (by omega) (by omega)) (nI_clamp (by omega)) ?_
  refine aw_ret (v := some (.int _)) eX1_cell_10 ⟨rfl, rfl⟩ (by omega) (by omega) rfl ?_
  exact ⟨rfl, rfl⟩
abbrev mX1_takes : MT := (RX1, cX1_takes, 4, (some .int), false)
theorem eX1_takes_0 : decode mX1_takes.2.1 0 = .ok (.aload_n 0, 1) := by decide +kernel
theorem eX1_takes_1 : decode mX1_takes.2.1 1 = .ok (.getfield 9, 3) := by decide +kernel
theorem eX1_takes_4 : decode mX1_takes.2.1 4 = .ok (.aload_n 0, 1) := by decide +kernel
theorem eX1_takes_5 : decode mX1_takes.2.1 5 = .ok (.getfield 15, 3) := by decide +kernel
theorem eX1_takes_8 : decode mX1_takes.2.1 8 = .ok (.if_icmp .lt 6, 3) := by decide +kernel
theorem eX1_takes_11 : decode mX1_takes.2.1 11 = .ok (.bipush (-4), 2) := by decide +kernel
theorem eX1_takes_13 : decode mX1_takes.2.1 13 = .ok (.ireturn, 1) := by decide +kernel
theorem eX1_takes_14 : decode mX1_takes.2.1 14 = .ok (.aload_n 0, 1) := by decide +kernel
theorem eX1_takes_15 : decode mX1_takes.2.1 15 = .ok (.getfield 18, 3) := by decide +kernel
theorem eX1_takes_18 : decode mX1_takes.2.1 18 = .ok (.aload_n 0, 1) := by decide +kernel
theorem eX1_takes_19 : decode mX1_takes.2.1 19 = .ok (.getfield 9, 3) := by decide +kernel
theorem eX1_takes_22 : decode mX1_takes.2.1 22 = .ok (.iconst 3, 1) := by decide +kernel
theorem eX1_takes_23 : decode mX1_takes.2.1 23 = .ok (.imul, 1) := by decide +kernel
theorem eX1_takes_24 : decode mX1_takes.2.1 24 = .ok (.iload_n 1, 1) := by decide +kernel
theorem eX1_takes_25 : decode mX1_takes.2.1 25 = .ok (.iastore, 1) := by decide +kernel
theorem eX1_takes_26 : decode mX1_takes.2.1 26 = .ok (.aload_n 0, 1) := by decide +kernel
theorem eX1_takes_27 : decode mX1_takes.2.1 27 = .ok (.getfield 18, 3) := by decide +kernel
theorem eX1_takes_30 : decode mX1_takes.2.1 30 = .ok (.aload_n 0, 1) := by decide +kernel
theorem eX1_takes_31 : decode mX1_takes.2.1 31 = .ok (.getfield 9, 3) := by decide +kernel
theorem eX1_takes_34 : decode mX1_takes.2.1 34 = .ok (.iconst 3, 1) := by decide +kernel
theorem eX1_takes_35 : decode mX1_takes.2.1 35 = .ok (.imul, 1) := by decide +kernel
theorem eX1_takes_36 : decode mX1_takes.2.1 36 = .ok (.iconst 1, 1) := by decide +kernel
theorem eX1_takes_37 : decode mX1_takes.2.1 37 = .ok (.iadd, 1) := by decide +kernel
theorem eX1_takes_38 : decode mX1_takes.2.1 38 = .ok (.iload_n 2, 1) := by decide +kernel
theorem eX1_takes_39 : decode mX1_takes.2.1 39 = .ok (.iastore, 1) := by decide +kernel
theorem eX1_takes_40 : decode mX1_takes.2.1 40 = .ok (.aload_n 0, 1) := by decide +kernel
theorem eX1_takes_41 : decode mX1_takes.2.1 41 = .ok (.getfield 18, 3) := by decide +kernel
theorem eX1_takes_44 : decode mX1_takes.2.1 44 = .ok (.aload_n 0, 1) := by decide +kernel
theorem eX1_takes_45 : decode mX1_takes.2.1 45 = .ok (.getfield 9, 3) := by decide +kernel
theorem eX1_takes_48 : decode mX1_takes.2.1 48 = .ok (.iconst 3, 1) := by decide +kernel
theorem eX1_takes_49 : decode mX1_takes.2.1 49 = .ok (.imul, 1) := by decide +kernel
theorem eX1_takes_50 : decode mX1_takes.2.1 50 = .ok (.iconst 2, 1) := by decide +kernel
theorem eX1_takes_51 : decode mX1_takes.2.1 51 = .ok (.iadd, 1) := by decide +kernel
theorem eX1_takes_52 : decode mX1_takes.2.1 52 = .ok (.iload_n 3, 1) := by decide +kernel
theorem eX1_takes_53 : decode mX1_takes.2.1 53 = .ok (.iastore, 1) := by decide +kernel
theorem eX1_takes_54 : decode mX1_takes.2.1 54 = .ok (.aload_n 0, 1) := by decide +kernel
theorem eX1_takes_55 : decode mX1_takes.2.1 55 = .ok (.dup, 1) := by decide +kernel
theorem eX1_takes_56 : decode mX1_takes.2.1 56 = .ok (.getfield 9, 3) := by decide +kernel
theorem eX1_takes_59 : decode mX1_takes.2.1 59 = .ok (.iconst 1, 1) := by decide +kernel
theorem eX1_takes_60 : decode mX1_takes.2.1 60 = .ok (.iadd, 1) := by decide +kernel
theorem eX1_takes_61 : decode mX1_takes.2.1 61 = .ok (.putfield 9, 3) := by decide +kernel
theorem eX1_takes_64 : decode mX1_takes.2.1 64 = .ok (.aload_n 0, 1) := by decide +kernel
theorem eX1_takes_65 : decode mX1_takes.2.1 65 = .ok (.getfield 9, 3) := by decide +kernel
theorem eX1_takes_68 : decode mX1_takes.2.1 68 = .ok (.ireturn, 1) := by decide +kernel
theorem c_X1_takes {a most n : Nat} {f : Nat → Int32} (hR : RAt h a most n f) (hn : n < most) (hmost : most ≤ 100) (x y z : Int32) (hd : 0 ≤ d) : Ct l G mX1_takes yX1_takes d 0 0 [.ref a, .int x, .int y, .int z] h (fun r h' => r = some (.int (nI (n + 1))) ∧ RAt h' a most (n + 1) (upd (upd (upd f (3 * n) x) (3 * n + 1) y) (3 * n + 2) z) ∧ Same a 2 h h') := by
  refine ct_of (lv := [some (.ref a), some (.int x), some (.int y), some (.int z)]) (by decide +kernel) rfl (fun z => by cases z) (fun _ => rfl) (fun _ => Nat.le_of_ble_eq_true rfl) ?_
  refine aw_aload_n (pc' := 1) eX1_takes_0 rfl rfl trivial ?_
  refine aw_Oget (pc' := 4) (ci := 1) (kf := 2) (N := 3) (.int (nI n)) hR.1 eX1_takes_1 rfl rfl rfl inX1 (by decide) q167 rfl ?_
  refine aw_aload_n (pc' := 5) eX1_takes_4 rfl rfl trivial ?_
  refine aw_Oget (pc' := 8) (ci := 1) (kf := 0) (N := 3) (.int (nI most)) hR.1 eX1_takes_5 rfl rfl rfl inX1 (by decide) q165 rfl ?_
  refine aw_icmp_lt (pc' := 11) (tgt := 14) eX1_takes_8 rfl (by decide) (fun c_8 => ?_) (fun c_8 => ?_)
  · refine aw_aload_n (pc' := 15) eX1_takes_14 rfl rfl trivial ?_
    refine aw_Oget (pc' := 18) (ci := 1) (kf := 1) (N := 3) (.ref (a + 1)) hR.1 eX1_takes_15 rfl rfl rfl inX1 (by decide) q166 rfl ?_
    refine aw_aload_n (pc' := 19) eX1_takes_18 rfl rfl trivial ?_
    refine aw_Oget (pc' := 22) (ci := 1) (kf := 2) (N := 3) (.int (nI n)) hR.1 eX1_takes_19 rfl rfl rfl inX1 (by decide) q167 rfl ?_
    refine aw_iconst (pc' := 23) (v := 3) eX1_takes_22 rfl (by decide) ?_
    refine aw_imul (pc' := 24) eX1_takes_23 rfl ?_
    rw [ix3z]
    refine aw_iload_n (pc' := 25) eX1_takes_24 rfl rfl ?_
    refine aw_Ais (pc' := 26) (3 * n) hR.2 eX1_takes_25 rfl (show vp_in _ (3 * most) from vp_in_nI (by omega) (by omega)) (nI_clamp (by omega)) (fun h3 hA1 hs2 => ?_)
    have hz4 := hs2.w (w2 := a) (n2 := 2) (by omega) (by omega)
    have hF5 := hR.1.fr hs2 (by omega)
    refine aw_aload_n (pc' := 27) eX1_takes_26 rfl rfl trivial ?_
    refine aw_Oget (pc' := 30) (ci := 1) (kf := 1) (N := 3) (.ref (a + 1)) hF5 eX1_takes_27 rfl rfl rfl inX1 (by decide) q166 rfl ?_
    refine aw_aload_n (pc' := 31) eX1_takes_30 rfl rfl trivial ?_
    refine aw_Oget (pc' := 34) (ci := 1) (kf := 2) (N := 3) (.int (nI n)) hF5 eX1_takes_31 rfl rfl rfl inX1 (by decide) q167 rfl ?_
    refine aw_iconst (pc' := 35) (v := 3) eX1_takes_34 rfl (by decide) ?_
    refine aw_imul (pc' := 36) eX1_takes_35 rfl ?_
    refine aw_iconst (pc' := 37) (v := 1) eX1_takes_36 rfl (by decide) ?_
    refine aw_iadd (pc' := 38) eX1_takes_37 rfl ?_
    rw [show nI n * 3 + 1 = nI (3 * n + 1) from ix3r (r := n) (c := 1) (by omega)]
    refine aw_iload_n (pc' := 39) eX1_takes_38 rfl rfl ?_
    refine aw_Ais (pc' := 40) (3 * n + 1) hA1 eX1_takes_39 rfl (show vp_in _ (3 * most) from vp_in_nI (by omega) (by omega)) (nI_clamp (by omega)) (fun h8 hA6 hs7 => ?_)
    have hz9 := hs7.w (w2 := a) (n2 := 2) (by omega) (by omega)
    have hT10 := hz4.tr hz9
    have hF11 := hF5.fr hs7 (by omega)
    refine aw_aload_n (pc' := 41) eX1_takes_40 rfl rfl trivial ?_
    refine aw_Oget (pc' := 44) (ci := 1) (kf := 1) (N := 3) (.ref (a + 1)) hF11 eX1_takes_41 rfl rfl rfl inX1 (by decide) q166 rfl ?_
    refine aw_aload_n (pc' := 45) eX1_takes_44 rfl rfl trivial ?_
    refine aw_Oget (pc' := 48) (ci := 1) (kf := 2) (N := 3) (.int (nI n)) hF11 eX1_takes_45 rfl rfl rfl inX1 (by decide) q167 rfl ?_
    refine aw_iconst (pc' := 49) (v := 3) eX1_takes_48 rfl (by decide) ?_
    refine aw_imul (pc' := 50) eX1_takes_49 rfl ?_
    refine aw_iconst (pc' := 51) (v := 2) eX1_takes_50 rfl (by decide) ?_
    refine aw_iadd (pc' := 52) eX1_takes_51 rfl ?_
    rw [show nI n * 3 + 2 = nI (3 * n + 2) from ix3r (r := n) (c := 2) (by omega)]
    refine aw_iload_n (pc' := 53) eX1_takes_52 rfl rfl ?_
    refine aw_Ais (pc' := 54) (3 * n + 2) hA6 eX1_takes_53 rfl (show vp_in _ (3 * most) from vp_in_nI (by omega) (by omega)) (nI_clamp (by omega)) (fun h14 hA12 hs13 => ?_)
    have hz15 := hs13.w (w2 := a) (n2 := 2) (by omega) (by omega)
    have hT16 := hT10.tr hz15
    have hF17 := hF11.fr hs13 (by omega)
    refine aw_aload_n (pc' := 55) eX1_takes_54 rfl rfl trivial ?_
    refine aw_dup (pc' := 56) eX1_takes_55 rfl rfl ?_
    refine aw_Oget (pc' := 59) (ci := 1) (kf := 2) (N := 3) (.int (nI n)) hF17 eX1_takes_56 rfl rfl rfl inX1 (by decide) q167 rfl ?_
    refine aw_iconst (pc' := 60) (v := 1) eX1_takes_59 rfl (by decide) ?_
    refine aw_iadd (pc' := 61) eX1_takes_60 rfl ?_
    refine aw_Oput (pc' := 64) (ci := 1) (kf := 2) (N := 3) (ty0 := tyX1) [.int (nI most), .ref (a + 1), .int (nI n + 1)] hF17 eX1_takes_61 rfl rfl rfl inX1 tyX1_ok nmX1 (by decide) q167 rfl (by first | trivial | exact Or.inl rfl | exact Or.inr rfl | (simp [zfit]; done)) rfl (fun h20 hO18 hs19 => ?_)
    have hz21 := hs19.w (w2 := a) (n2 := 2) (by omega) (by omega)
    have hT22 := hT16.tr hz21
    have hF23 := hA12.fr hs19 (by omega)
    refine aw_aload_n (pc' := 65) eX1_takes_64 rfl rfl trivial ?_
    refine aw_Oget (pc' := 68) (ci := 1) (kf := 2) (N := 3) (.int (nI n + 1)) hO18 eX1_takes_65 rfl rfl rfl inX1 (by decide) q167 rfl ?_
    refine aw_ret (v := some (.int _)) eX1_takes_68 ⟨rfl, rfl⟩ (by omega) (by omega) rfl ?_
    refine ⟨?_, ⟨?_, hF23⟩, hT22⟩
    · rw [show nI n + 1 = nI (n + 1) from nI_1 n]
    · have z := hO18
      rw [show nI n + 1 = nI (n + 1) from nI_1 n] at z
      exact z
  · exact absurd ((nI_ltI (by omega) (by omega)).mpr hn) c_8
theorem f_X1_takes {a most : Nat} {f : Nat → Int32} (hR : RAt h a most most f) (hmost : most ≤ 100) (x y z : Int32) (hd : 0 ≤ d) : Ct l G mX1_takes yX1_takes d 0 0 [.ref a, .int x, .int y, .int z] h (fun r h' => r = some (.int (-4)) ∧ h' = h) := by
  refine ct_of (lv := [some (.ref a), some (.int x), some (.int y), some (.int z)]) (by decide +kernel) rfl (fun z => by cases z) (fun _ => rfl) (fun _ => Nat.le_of_ble_eq_true rfl) ?_
  refine aw_aload_n (pc' := 1) eX1_takes_0 rfl rfl trivial ?_
  refine aw_Oget (pc' := 4) (ci := 1) (kf := 2) (N := 3) (.int (nI most)) hR.1 eX1_takes_1 rfl rfl rfl inX1 (by decide) q167 rfl ?_
  refine aw_aload_n (pc' := 5) eX1_takes_4 rfl rfl trivial ?_
  refine aw_Oget (pc' := 8) (ci := 1) (kf := 0) (N := 3) (.int (nI most)) hR.1 eX1_takes_5 rfl rfl rfl inX1 (by decide) q165 rfl ?_
  refine aw_icmp_lt (pc' := 11) (tgt := 14) eX1_takes_8 rfl (by decide) (fun c_8 => ?_) (fun c_8 => ?_)
  · exact absurd ((nI_ltI (by omega) (by omega)).mp c_8) (by omega)
  · refine aw_bipush (pc' := 13) (v := -4) eX1_takes_11 rfl (by decide) ?_
    refine aw_ret (v := some (.int _)) eX1_takes_13 ⟨rfl, rfl⟩ (by omega) (by omega) rfl ?_
    exact ⟨rfl, rfl⟩
abbrev mX1_becomes : MT := (RX1, cX1_becomes, 2, none, false)
theorem eX1_becomes_0 : decode mX1_becomes.2.1 0 = .ok (.aload_n 1, 1) := by decide +kernel
theorem eX1_becomes_1 : decode mX1_becomes.2.1 1 = .ok (.getfield 18, 3) := by decide +kernel
theorem eX1_becomes_4 : decode mX1_becomes.2.1 4 = .ok (.iconst 0, 1) := by decide +kernel
theorem eX1_becomes_5 : decode mX1_becomes.2.1 5 = .ok (.aload_n 0, 1) := by decide +kernel
theorem eX1_becomes_6 : decode mX1_becomes.2.1 6 = .ok (.getfield 18, 3) := by decide +kernel
theorem eX1_becomes_9 : decode mX1_becomes.2.1 9 = .ok (.iconst 0, 1) := by decide +kernel
theorem eX1_becomes_10 : decode mX1_becomes.2.1 10 = .ok (.aload_n 0, 1) := by decide +kernel
theorem eX1_becomes_11 : decode mX1_becomes.2.1 11 = .ok (.getfield 18, 3) := by decide +kernel
theorem eX1_becomes_14 : decode mX1_becomes.2.1 14 = .ok (.arraylength, 1) := by decide +kernel
theorem eX1_becomes_15 : decode mX1_becomes.2.1 15 = .ok (.aload_n 1, 1) := by decide +kernel
theorem eX1_becomes_16 : decode mX1_becomes.2.1 16 = .ok (.getfield 18, 3) := by decide +kernel
theorem eX1_becomes_19 : decode mX1_becomes.2.1 19 = .ok (.arraylength, 1) := by decide +kernel
theorem eX1_becomes_20 : decode mX1_becomes.2.1 20 = .ok (.invokestatic 22, 3) := by decide +kernel
theorem eX1_becomes_23 : decode mX1_becomes.2.1 23 = .ok (.invokestatic 28, 3) := by decide +kernel
theorem eX1_becomes_26 : decode mX1_becomes.2.1 26 = .ok (.aload_n 0, 1) := by decide +kernel
theorem eX1_becomes_27 : decode mX1_becomes.2.1 27 = .ok (.aload_n 1, 1) := by decide +kernel
theorem eX1_becomes_28 : decode mX1_becomes.2.1 28 = .ok (.getfield 9, 3) := by decide +kernel
theorem eX1_becomes_31 : decode mX1_becomes.2.1 31 = .ok (.aload_n 0, 1) := by decide +kernel
theorem eX1_becomes_32 : decode mX1_becomes.2.1 32 = .ok (.getfield 15, 3) := by decide +kernel
theorem eX1_becomes_35 : decode mX1_becomes.2.1 35 = .ok (.invokestatic 22, 3) := by decide +kernel
theorem eX1_becomes_38 : decode mX1_becomes.2.1 38 = .ok (.putfield 9, 3) := by decide +kernel
theorem eX1_becomes_41 : decode mX1_becomes.2.1 41 = .ok (.return_, 1) := by decide +kernel
theorem c_X1_becomes {a b most n n2 : Nat} {f f2 : Nat → Int32} (hR : RAt h a most n f) (hT : RAt h b most n2 f2) (hn2 : n2 ≤ most) (hmost : most ≤ 100) (hne : a + 2 ≤ b ∨ b + 2 ≤ a) (hd : 1 ≤ d) : Ct l G mX1_becomes yX1_becomes d 0 0 [.ref a, .ref b] h (fun r h' => r = none ∧ ∃ f', (∀ i, i < 3 * most → f' i = f2 i) ∧ RAt h' a most n2 f' ∧ Same a 2 h h') := by
  refine ct_of (lv := [some (.ref a), some (.ref b)]) (by decide +kernel) rfl (fun z => by cases z) (fun _ => rfl) (fun _ => Nat.le_of_ble_eq_true rfl) ?_
  have eM : (if nI (3 * most) < nI (3 * most) then nI (3 * most) else nI (3 * most)) = nI (3 * most) := ite_self _
  have eN : (if nI most < nI n2 then nI most else nI n2) = nI n2 := if_neg (fun z => by have := (nI_ltI (by omega) (by omega)).mp z; omega)
  refine aw_aload_n (pc' := 1) eX1_becomes_0 rfl rfl trivial ?_
  refine aw_Oget (pc' := 4) (ci := 1) (kf := 1) (N := 3) (.ref (b + 1)) hT.1 eX1_becomes_1 rfl rfl rfl inX1 (by decide) q166 rfl ?_
  refine aw_iconst (pc' := 5) (v := 0) eX1_becomes_4 rfl (by decide) ?_
  refine aw_aload_n (pc' := 6) eX1_becomes_5 rfl rfl trivial ?_
  refine aw_Oget (pc' := 9) (ci := 1) (kf := 1) (N := 3) (.ref (a + 1)) hR.1 eX1_becomes_6 rfl rfl rfl inX1 (by decide) q166 rfl ?_
  refine aw_iconst (pc' := 10) (v := 0) eX1_becomes_9 rfl (by decide) ?_
  refine aw_aload_n (pc' := 11) eX1_becomes_10 rfl rfl trivial ?_
  refine aw_Oget (pc' := 14) (ci := 1) (kf := 1) (N := 3) (.ref (a + 1)) hR.1 eX1_becomes_11 rfl rfl rfl inX1 (by decide) q166 rfl ?_
  refine aw_Alen (pc' := 15) hR.2 eX1_becomes_14 rfl (by decide) ?_
  refine aw_aload_n (pc' := 16) eX1_becomes_15 rfl rfl trivial ?_
  refine aw_Oget (pc' := 19) (ci := 1) (kf := 1) (N := 3) (.ref (b + 1)) hT.1 eX1_becomes_16 rfl rfl rfl inX1 (by decide) q166 rfl ?_
  refine aw_Alen (pc' := 20) hT.2 eX1_becomes_19 rfl (by decide) ?_
  refine aw_mmin (pc' := 23) eX1_becomes_20 rfl q705 q326 q63 q327 (by omega) ⟨by omega, by omega⟩ (Nat.le_of_ble_eq_true rfl) ?_
  refine aw_Acpi (pc' := 26) (s0 := 0) (s1 := 0) (c := 3 * most) hT.2 hR.2 eX1_becomes_23 rfl q706 q338 q337 q64 rfl rfl eM ⟨by omega, by omega, by omega, by omega⟩ (by omega) (Nat.le_of_ble_eq_true rfl) (fun h3 hA1 hs2 => ?_)
  have hz4 := hs2.w (w2 := a) (n2 := 2) (by omega) (by omega)
  have hF5 := hR.1.fr hs2 (by omega)
  have hF6 := hT.1.fr hs2 (by omega)
  have hF7 := hT.2.fr hs2 (by omega)
  refine aw_aload_n (pc' := 27) eX1_becomes_26 rfl rfl trivial ?_
  refine aw_aload_n (pc' := 28) eX1_becomes_27 rfl rfl trivial ?_
  refine aw_Oget (pc' := 31) (ci := 1) (kf := 2) (N := 3) (.int (nI n2)) hF6 eX1_becomes_28 rfl rfl rfl inX1 (by decide) q167 rfl ?_
  refine aw_aload_n (pc' := 32) eX1_becomes_31 rfl rfl trivial ?_
  refine aw_Oget (pc' := 35) (ci := 1) (kf := 0) (N := 3) (.int (nI most)) hF5 eX1_becomes_32 rfl rfl rfl inX1 (by decide) q165 rfl ?_
  refine aw_mmin (pc' := 38) eX1_becomes_35 rfl q705 q326 q63 q327 (by omega) ⟨by omega, by omega⟩ (Nat.le_of_ble_eq_true rfl) ?_
  rw [eN]
  refine aw_Oput (pc' := 41) (ci := 1) (kf := 2) (N := 3) (ty0 := tyX1) [.int (nI most), .ref (a + 1), .int (nI n2)] hF5 eX1_becomes_38 rfl rfl rfl inX1 tyX1_ok nmX1 (by decide) q167 rfl (by first | trivial | exact Or.inl rfl | exact Or.inr rfl | (simp [zfit]; done)) rfl (fun h10 hO8 hs9 => ?_)
  have hz11 := hs9.w (w2 := a) (n2 := 2) (by omega) (by omega)
  have hT12 := hz4.tr hz11
  have hF13 := hA1.fr hs9 (by omega)
  have hF14 := hF6.fr hs9 (by omega)
  have hF15 := hF7.fr hs9 (by omega)
  refine aw_ret (v := none) eX1_becomes_41 rfl (by omega) (by omega) rfl ?_
  refine ⟨rfl, _, fun i hi => ?_, ⟨hO8, hF13⟩, hT12⟩
  show (if 0 ≤ i ∧ i < 0 + 3 * most then f2 (0 + (i - 0)) else f i) = _
  rw [if_pos (by omega), Nat.zero_add, Nat.sub_zero]
end C5
