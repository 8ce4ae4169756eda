/-! texts, statics, cells that stood before -/
section ZS
variable {l : Launch} {G : GT} {M : MT} {d mc ms k n pc pc' : Nat} {Q : Option Value → Hp → Prop} {h : Hp} {lv : LV} {st : List Value}
theorem aw_low (kk : (∀ i, i < 16 → h.2 i = zlow G i) → AW l G M d mc ms Q k n h lv st pc) : AW l G M d mc ms Q k n h lv st pc := by
  intro p e s m args below meth c H locs ls Z hC hR hS hl hF
  exact kk hR.2.2.2 p e s m args below meth c H locs ls Z hC hR hS hl hF
theorem aw_ldcw {i : Nat} {v : Int32} (hd : decode M.2.1 pc = .ok (.ldc_w i, 3)) (hn : pc + 3 = pc') (hw : Cond.constant M.1 i v ∈ TB) (kk : AW l G M d mc ms Q k n h lv (.int v :: st) pc') : AW l G M d mc ms Q k n h lv st pc := by
  intro p e s m args below meth c H locs ls Z hC hR hS hl hF
  have hx := hC.1
  have hb := hC.2.1
  subst hn
  exact lv_ldcw hx hb hC.2.2.2.2.2.2.1 (hC.2.2.2.2.2.2.2.1 _ hw) hd (kk p e s m args below meth c H locs ls Z hC hR hS hl hF)
theorem aw_getC {idx : Nat} (hd : decode M.2.1 pc = .ok (.getstatic idx, 3)) (hn : pc + 3 = pc') (hw : Cond.fieldLink M.1 idx "java/lang/String" "COMPACT_STRINGS" "Z" ∈ TB)
    (kk : AW l G M d mc ms Q k n h lv (.int 1 :: st) pc') : AW l G M d mc ms Q k n h lv st pc := by
  intro p e s m args below meth c H locs ls Z hC hR hS hl hF
  have hx := hC.1
  have hb := hC.2.1
  subst hn
  have hSt := hC.2.2.2.2.2.2.2.2.1
  exact va_gets hx hb hSt.2.2.2.2.1 hS hC.2.2.2.2.2.2.1 (hC.2.2.2.2.2.2.2.1 _ hw) (fun _ h9 => h9) hd (kk p e s m args below meth c H locs ls Z hC hR hS hl hF)
theorem aw_getF {idx : Nat} (hd : decode M.2.1 pc = .ok (.getstatic idx, 3)) (hn : pc + 3 = pc') (hw : Cond.fieldLink M.1 idx "jdk/internal/util/Preconditions" "SIOOBE_FORMATTER" "Ljava/util/function/BiFunction;" ∈ TB)
    (k1 : AW l G M d mc ms Q k n h lv (.null :: st) pc') (k2 : AW l G M d mc ms Q k n h lv (.ref 15 :: st) pc') : AW l G M d mc ms Q k n h lv st pc := by
  intro p e s m args below meth c H locs ls Z hC hR hS hl hF
  have hx := hC.1
  have hb := hC.2.1
  subst hn
  have hSt := hC.2.2.2.2.2.2.2.2.1
  rcases hSt.2.2.2.2.2.2.2.2.2.2 with z | z
  · exact va_gets hx hb z hS hC.2.2.2.2.2.2.1 (hC.2.2.2.2.2.2.2.1 _ hw) (fun _ h9 => h9) hd (k1 p e s m args below meth c H locs ls Z hC hR hS hl hF)
  · exact va_gets hx hb z hS hC.2.2.2.2.2.2.1 (hC.2.2.2.2.2.2.2.1 _ hw) (fun _ h9 => h9) hd (k2 p e s m args below meth c H locs ls Z hC hR hS hl hF)
theorem aw_Scod {idx i a : Nat} (hi : i < 6) (ha : a = 3 + i) (hd : decode M.2.1 pc = .ok (.getfield idx, 3)) (hn : pc + 3 = pc') (hw : Cond.fieldLink M.1 idx "java/lang/String" "coder" "B" ∈ TB)
    (kk : AW l G M d mc ms Q k n h lv (.int 0 :: st) pc') : AW l G M d mc ms Q k n h lv (.ref a :: st) pc := by
  intro p e s m args below meth c H locs ls Z hC hR hS hl hF
  have hx := hC.1
  have hb := hC.2.1
  subst hn ha
  have hSt := hC.2.2.2.2.2.2.2.2.1
  have h6 := (hSt.2.2.2.2.2.1 i hi).2.1
  rw [show glo G (3 + i) = zad G (3 + i) from (if_pos (by omega)).symm] at h6
  exact vk_getf hx hb h6 hS hC.2.2.2.2.2.2.1 (hC.2.2.2.2.2.2.2.1 _ hw) (fun _ h9 => h9) hd (kk p e s m args below meth c H locs ls Z hC hR hS hl hF)
theorem aw_Sval {idx i a : Nat} (hi : i < 6) (ha : a = 3 + i) (hd : decode M.2.1 pc = .ok (.getfield idx, 3)) (hn : pc + 3 = pc') (hw : Cond.fieldLink M.1 idx "java/lang/String" "value" "[B" ∈ TB)
    (kk : AW l G M d mc ms Q k n h lv (.ref (9 + i) :: st) pc') : AW l G M d mc ms Q k n h lv (.ref a :: st) pc := by
  intro p e s m args below meth c H locs ls Z hC hR hS hl hF
  have hx := hC.1
  have hb := hC.2.1
  subst hn ha
  have hSt := hC.2.2.2.2.2.2.2.2.1
  have h6 := (hSt.2.2.2.2.2.1 i hi).2.2
  rw [show glo G (3 + i) = zad G (3 + i) from (if_pos (by omega)).symm, show glo G (9 + i) = zad G (9 + i) from (if_pos (by omega)).symm] at h6
  exact vk_getf hx hb h6 hS hC.2.2.2.2.2.2.1 (hC.2.2.2.2.2.2.2.1 _ hw) (fun _ h9 => h9) hd (kk p e s m args below meth c H locs ls Z hC hR hS hl hF)
/-- the bytes of a text -/
theorem zlow_b {i : Nat} (hL : ∀ i, i < 16 → h.2 i = zlow G i) (hi : i < 6) : h.2 (9 + i) = .inl (1, (sLen.getD i 0, .inl (fun j => (sByt.getD i []).getD j 0))) := by
  rw [hL (9 + i) (by omega)]
  unfold zlow
  rw [if_neg (by omega), if_neg (by omega), if_neg (by omega), if_neg (by omega), if_pos (by omega), Nat.add_sub_cancel_left]
theorem aw_Slen {i : Nat} (hi : i < 6) (hd : decode M.2.1 pc = .ok (.arraylength, 1)) (hn : pc + 1 = pc')
    (kk : AW l G M d mc ms Q k n h lv (.int (nI (sLen.getD i 0)) :: st) pc') : AW l G M d mc ms Q k n h lv (.ref (9 + i) :: st) pc := by
  refine aw_low fun hL => ?_
  have e := zlow_b hL hi
  refine aw_alenL (kd := 1) hd hn (by omega) (by rw [e]; rfl) ?_
  rw [e]
  exact kk
theorem aw_Sbl {i j : Nat} {x : Int32} (hi : i < 6) (hd : decode M.2.1 pc = .ok (.baload, 1)) (hn : pc + 1 = pc') (hj : j < sLen.getD i 0) (hx : x = nI j) (hl : sLen.getD i 0 < 2147483648)
    (kk : AW l G M d mc ms Q k n h lv (.int ((sByt.getD i []).getD j 0) :: st) pc') : AW l G M d mc ms Q k n h lv (.int x :: .ref (9 + i) :: st) pc := by
  subst hx
  refine aw_low fun hL => ?_
  have e := zlow_b hL hi
  refine aw_baload hd hn (by rw [e]; rfl) (by rw [e]; exact vp_in_nI hj hl) ?_
  rw [e, nI_clamp (by omega)]
  exact kk
/-- a virtual call on a text -/
theorem aw_callS {My : MT} {y : MethodName} {d' mc' ms' idx b nn : Nat} {as : List Value} {st0 : List Value} {Q' : Option Value → Hp → Prop} (hct : Ct l G My y d' mc' ms' (.ref b :: as) h Q') (hd : decode M.2.1 pc = .ok (.invokevirtual idx, 3)) (hn : pc + 3 = pc') (hw : zwd M.1 idx y My) (hi : Cond.instanceMethod y ∈ TB) (hsl : Cond.selects "java/lang/String" y y ∈ TB) (hdd : y.cls = "java/lang/String" ∧ y.cls ≠ "java/lang/invoke/MethodHandle" ∧ y.cls ≠ "java/lang/invoke/VarHandle" ∧ (parseMethodDescriptor y.desc).map (fun d => d.parameters.length) = some nn) (hnn : as.length = nn)
    (hb3 : 3 ≤ b ∧ b < 9) (hdp : d' + 1 ≤ d ∧ My.2.2.1 ≤ 45) (hf : k + mc' ≤ mc ∧ n + ms' ≤ ms) (hst : st0 = as.reverse ++ .ref b :: st) (hsm : (st.map fun v => v.category).sum ≤ 8)
    (kk : ∀ v h', Q' v h' → AW l G M d mc ms Q (k + mc') (n + ms') h' lv (v.toList ++ st) pc') : AW l G M d mc ms Q k n h lv st0 pc := by
  intro p e s m args below meth c H locs ls Z hC hR hS hl hF
  have hx := hC.1
  have hb := hC.2.1
  subst hn
  subst hst
  have hSt := hC.2.2.2.2.2.2.2.2.1
  have hge := hC.2.2.2.2.2.2.2.2.2
  have hts := hC.2.2.2.2.2.2.2.1
  have hPr := z_pre (h := h) (as := .ref b :: as) hSt hge hR hS
  have h6 := (hSt.2.2.2.2.2.1 (b - 3) (by omega)).1
  rw [show 3 + (b - 3) = b by omega, show glo G b = zad G b from (if_pos (by omega)).symm] at h6
  have hrecv := va_Orecv h6 hS
  have hrun := va_runV (H := H) (locs := locs) (cells := k) (slots := n) (e := e) (below := below) (meth := meth) (R := rmd d mc ms) (As := as.map (zV G)) (rest := st.map (zV G)) (g := F0 m pc ls ((as.reverse ++ .ref b :: st).map (zV G))) (C := "java/lang/String") (b := zad G b) (nL := M.2.2.1) ⟨hx, hb, hC.2.2.1, hC.2.2.2.2.2.2.1, hts⟩ hct (cwV nn hts (zgood (ws := wsV M.1 idx "java/lang/String" y _) (zgood1 hw.1 (zgood1 hi (zgood1 hsl (zgood1 (hdd.1 ▸ hw.2.2) (zgood1 hw.2.1 (fun w h => h))))))) rfl rfl rfl hdd ⟨hdp.1, by show 8 + (My.2.2.1 + 11) + 64 * d' ≤ 64 * d; omega⟩) ⟨hPr.1, hrecv, hPr.2⟩ rfl (by rw [List.length_map]; exact hnn) (by exact hl.1) (by simp [zV]) (lv_room (by rw [zcat]; exact hsm)) hd hf
  refine z_after (Q' := Q') hrun hS fun v h' H1 locs1 hq hR1 hS1 => ?_
  have K := kk v h' hq p e s m args below meth c H1 locs1 ls Z hC hR1 hS1 hl hF
  rw [List.map_append, show v.toList.map (zV G) = (v.map (zV G)).toList by cases v <;> rfl] at K
  exact K
end ZS
