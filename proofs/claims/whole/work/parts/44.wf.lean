/-! a World and the sea that holds there: F tells what the sea adds to, and its room -/
def cF (sd : SD) : FT := fun g i => match sd with
  | none => (g (10 * i + 2), 30)
  | some (n, f, r) => (g (10 * i + 2) + (cAd f (mNm g i) n).1, r)
def SR (F : FT) (q : Int32) (sd : SD) : Prop := ∀ g : Nat → Int32, g 68 = q → ∀ i, i < 6 → F g i = cF sd g i
def WF (F : FT) (h : Hp) (w : Nat) (g : Nat → Int32) (o : Int32) : Prop := w + 10 ≤ 96 ∧ ∃ L v sd, WG h w g o L v ∧ SAt h v sd ∧ SR F (g 68) sd
theorem WF.fr {F : FT} {h h' : Hp} {w w2 n : Nat} {g : Nat → Int32} {o : Int32} (hW : WF F h w g o) (hs : Same w2 n h h') (hd : (w + 10 ≤ w2 ∨ w2 + n ≤ w) ∧ w2 + n ≤ 96) : WF F h' w g o := by
  obtain ⟨h1, L, v, sd, hG, hS, hF⟩ := hW
  exact ⟨h1, L, v, sd, WAt.fr hG hs hd.1, hS.fr hs hd.2, hF⟩
theorem WF.ob {F : FT} {h : Hp} {w : Nat} {g : Nat → Int32} {o : Int32} (hW : WF F h w g o) : zOb (h.2 w) 5 15 := by
  obtain ⟨h1, L, v, sd, hG, hS, hF⟩ := hW
  rw [hG.2.1]
  exact ⟨rfl, rfl⟩
theorem WF.mk2 {F : FT} {h h' : Hp} {w : Nat} {g g' L : Nat → Int32} {o : Int32} {v : Value} {sd : SD} (h1 : w + 10 ≤ 96) (hS : SAt h v sd) (hF : SR F (g 68) sd) (e : g' 68 = g 68) (hG : WG h' w g' o L v) (hs : Same w 10 h h') : WF F h' w g' o :=
  ⟨h1, L, v, sd, hG, hS.fr hs h1, by rw [e]; exact hF⟩
theorem WF.gx {F : FT} {h : Hp} {w : Nat} {g g' : Nat → Int32} {o : Int32} (hW : WF F h w g o) (he : ∀ j, j < 69 → g j = g' j) : WF F h w g' o := by
  obtain ⟨h1, L, v, sd, hG, hS, hF⟩ := hW
  exact ⟨h1, L, v, sd, hG.gx fun j hj => he j (by omega), hS, by rw [← he 68 (by omega)]; exact hF⟩
theorem WF.eq {F : FT} {h : Hp} {w : Nat} {g g' : Nat → Int32} {o : Int32} (hW : WF F h w g o) (he : g = g') : WF F h w g' o := he ▸ hW
section ZF
variable {F : FT} {l : Launch} {G : GT} {M : MT} {d mc ms k n pc pc' : Nat} {Q : Option Value → Hp → Prop} {h : Hp} {lv : LV} {st : List Value} {w : Nat} {g : Nat → Int32} {o : Int32}
theorem aw_Fref {kf idx : Nat} (hW : WF F h w g o) (hd : decode M.2.1 pc = .ok (.getfield idx, 3)) (hn : pc + 3 = pc') (hk : 1 ≤ kf ∧ kf ≤ 9) (hw : Cond.fieldLink M.1 idx (TX5 kf).1 (TX5 kf).2.1 (TX5 kf).2.2.1 ∈ TB)
    (kk : AW l G M d mc ms Q k n h lv (.ref (w + kf) :: st) pc') : AW l G M d mc ms Q k n h lv (.ref w :: st) pc := by
  obtain ⟨h1, L, v, sd, hG, hS, hF⟩ := hW
  exact aw_Wref hG hd hn hk hw kk
theorem aw_Fint {kf idx : Nat} (hW : WF F h w g o) (hd : decode M.2.1 pc = .ok (.getfield idx, 3)) (hn : pc + 3 = pc') (hk : kf = 10 ∨ kf = 11 ∨ kf = 12 ∨ kf = 13) (hw : Cond.fieldLink M.1 idx (TX5 kf).1 (TX5 kf).2.1 (TX5 kf).2.2.1 ∈ TB)
    (kk : AW l G M d mc ms Q k n h lv (.int (g (gsc kf)) :: st) pc') : AW l G M d mc ms Q k n h lv (.ref w :: st) pc := by
  obtain ⟨h1, L, v, sd, hG, hS, hF⟩ := hW
  exact aw_Gint hG hd hn hk hw kk
theorem aw_Fold {idx : Nat} (hW : WF F h w g o) (hd : decode M.2.1 pc = .ok (.getfield idx, 3)) (hn : pc + 3 = pc') (hw : Cond.fieldLink M.1 idx (TX5 0).1 (TX5 0).2.1 (TX5 0).2.2.1 ∈ TB)
    (kk : AW l G M d mc ms Q k n h lv (.int o :: st) pc') : AW l G M d mc ms Q k n h lv (.ref w :: st) pc := by
  obtain ⟨h1, L, v, sd, hG, hS, hF⟩ := hW
  exact aw_Gold hG hd hn hw kk
theorem aw_Fld {i : Int32} (kf c p : Nat) (hW : WF F h w g o) (hd : decode M.2.1 pc = .ok (.iaload, 1)) (hn : pc + 1 = pc') (hk : 1 ≤ kf ∧ kf ≤ 6) (hc : c + 1 = kf) (hi : vp_in i 6) (hp : i.toNatClampNeg = p)
    (kk : AW l G M d mc ms Q k n h lv (.int (g (10 * p + c)) :: st) pc') : AW l G M d mc ms Q k n h lv (.int i :: .ref (w + kf) :: st) pc := by
  obtain ⟨h1, L, v, sd, hG, hS, hF⟩ := hW
  exact aw_Gld kf c p hG hd hn hk hc hi hp kk
theorem aw_Fld7 {i : Int32} (p c : Nat) (hW : WF F h w g o) (hd : decode M.2.1 pc = .ok (.iaload, 1)) (hn : pc + 1 = pc') (hc : c < 4) (hi : vp_in i 24) (hp : i.toNatClampNeg = 4 * p + c)
    (kk : AW l G M d mc ms Q k n h lv (.int (g (10 * p + (6 + c))) :: st) pc') : AW l G M d mc ms Q k n h lv (.int i :: .ref (w + 7) :: st) pc := by
  obtain ⟨h1, L, v, sd, hG, hS, hF⟩ := hW
  exact aw_Gld7 p c hG hd hn hc hi hp kk
theorem aw_Fld8 {i : Int32} (c : Nat) (hW : WF F h w g o) (hd : decode M.2.1 pc = .ok (.iaload, 1)) (hn : pc + 1 = pc') (hi : vp_in i 4) (hp : i.toNatClampNeg = c)
    (kk : AW l G M d mc ms Q k n h lv (.int (g (63 + c)) :: st) pc') : AW l G M d mc ms Q k n h lv (.int i :: .ref (w + 8) :: st) pc := by
  obtain ⟨h1, L, v, sd, hG, hS, hF⟩ := hW
  exact aw_Gld8 c hG hd hn hi hp kk
theorem aw_Fst {i x : Int32} (kf c p : Nat) (hW : WF F h w g o) (hd : decode M.2.1 pc = .ok (.iastore, 1)) (hn : pc + 1 = pc') (hk : 1 ≤ kf ∧ kf ≤ 6) (hc : c + 1 = kf) (hi : vp_in i 6) (hp : i.toNatClampNeg = p)
    (kk : ∀ h', WF F h' w (upd g (10 * p + c) x) o → Same w 10 h h' → AW l G M d mc ms Q k n h' lv st pc') : AW l G M d mc ms Q k n h lv (.int x :: .int i :: .ref (w + kf) :: st) pc := by
  obtain ⟨h1, L, v, sd, hG, hS, hF⟩ := hW
  have hp6 : p < 6 := hp ▸ Nat.not_le.mp fun q => hi (Or.inr q)
  exact aw_Gst kf c p hG hd hn hk hc hi hp fun h' a b => kk h' (WF.mk2 h1 hS hF (upd_ne (by omega)) a b) b
theorem aw_Fst7 {i x : Int32} (p c : Nat) (hW : WF F h w g o) (hd : decode M.2.1 pc = .ok (.iastore, 1)) (hn : pc + 1 = pc') (hp6 : p < 6) (hc : c < 4) (hi : vp_in i 24) (hp : i.toNatClampNeg = 4 * p + c)
    (kk : ∀ h', WF F h' w (upd g (10 * p + (6 + c)) x) o → Same w 10 h h' → AW l G M d mc ms Q k n h' lv st pc') : AW l G M d mc ms Q k n h lv (.int x :: .int i :: .ref (w + 7) :: st) pc := by
  obtain ⟨h1, L, v, sd, hG, hS, hF⟩ := hW
  exact aw_Gst7 p c hG hd hn hp6 hc hi hp fun h' a b => kk h' (WF.mk2 h1 hS hF (upd_ne (by omega)) a b) b
theorem aw_Fst8 {i x : Int32} (c : Nat) (hW : WF F h w g o) (hd : decode M.2.1 pc = .ok (.iastore, 1)) (hn : pc + 1 = pc') (hc : c < 4) (hi : vp_in i 4) (hp : i.toNatClampNeg = c)
    (kk : ∀ h', WF F h' w (upd g (63 + c) x) o → Same w 10 h h' → AW l G M d mc ms Q k n h' lv st pc') : AW l G M d mc ms Q k n h lv (.int x :: .int i :: .ref (w + 8) :: st) pc := by
  obtain ⟨h1, L, v, sd, hG, hS, hF⟩ := hW
  exact aw_Gst8 c hG hd hn hc hi hp fun h' a b => kk h' (WF.mk2 h1 hS hF (upd_ne (by omega)) a b) b
theorem aw_Fput {x : Int32} (kf : Nat) {idx : Nat} (hW : WF F h w g o) (hd : decode M.2.1 pc = .ok (.putfield idx, 3)) (hn : pc + 3 = pc') (hk : kf = 10 ∨ kf = 11 ∨ kf = 12 ∨ kf = 13) (hw : Cond.fieldLink M.1 idx (TX5 kf).1 (TX5 kf).2.1 (TX5 kf).2.2.1 ∈ TB)
    (kk : ∀ h', WF F h' w (upd g (gsc kf) x) o → Same w 10 h h' → AW l G M d mc ms Q k n h' lv st pc') : AW l G M d mc ms Q k n h lv (.int x :: .ref w :: st) pc := by
  obtain ⟨h1, L, v, sd, hG, hS, hF⟩ := hW
  exact aw_Gput kf hG hd hn hk hw fun h' a b => kk h' (WF.mk2 h1 hS hF (upd_ne (by rcases hk with rfl | rfl | rfl | rfl <;> decide)) a b) b
end ZF
