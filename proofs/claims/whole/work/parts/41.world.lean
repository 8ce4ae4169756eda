/-! a World, told by the model's row g: o how old one grows, L its letters, v its sea -/
def toS (g : Nat → Int32) (o : Int32) (L : Nat → Int32) (v : Value) : WT :=
  (fun k i => if k = 7 then g (10 * (i / 4) + (6 + i % 4)) else if k = 8 then g (63 + i) else if k = 9 then L i else g (10 * i + (k - 1)), fun j => if j = 0 then o else if j = 10 then g 60 else if j = 11 then g 61 else if j = 12 then g 62 else g 67, v)
abbrev WG (h : Hp) (w : Nat) (g : Nat → Int32) (o : Int32) (L : Nat → Int32) (v : Value) : Prop := WAt h w (toS g o L v)
/-- a scalar's place in the row -/
def gsc (kf : Nat) : Nat := if kf = 10 then 60 else if kf = 11 then 61 else if kf = 12 then 62 else 67
theorem WAt.ex2 {h : Hp} {w : Nat} {S S' : WT} (hW : WAt h w S) (e2 : S.2 = S'.2) (he : ∀ k, 1 ≤ k → k ≤ 9 → ∀ i, i < wlen k → S.1 k i = S'.1 k i) : WAt h w S' := by
  have z := hW.ext (A := S'.1) he
  rw [show ((S'.1, S.2.1, S.2.2) : WT) = S' by rw [e2]] at z
  exact z
theorem toS_2 {g L : Nat → Int32} {o x : Int32} {v : Value} {q : Nat} (hq : q < 60 ∨ (63 ≤ q ∧ q < 67)) : (toS g o L v).2 = (toS (upd g q x) o L v).2 := by
  unfold toS
  dsimp only
  simp only [upd_if]
  rw [if_neg (show ¬ 60 = q by omega), if_neg (show ¬ 61 = q by omega), if_neg (show ¬ 62 = q by omega), if_neg (show ¬ 67 = q by omega)]
theorem WG.up {h : Hp} {w kf p c : Nat} {g L : Nat → Int32} {o x : Int32} {v : Value} (hk : 1 ≤ kf ∧ kf ≤ 6) (hc : c + 1 = kf) (hp : p < 6) (hW : WAt h w (wup (toS g o L v) kf p x)) : WG h w (upd g (10 * p + c) x) o L v := by
  refine WAt.ex2 hW (show (wup (toS g o L v) kf p x).2 = _ from toS_2 (by omega)) fun k h1 h9 i hi => ?_
  subst hc
  unfold wup toS
  dsimp only
  simp only [upd_if]
  by_cases e : k = c + 1
  · subst e
    rw [if_pos rfl, upd_if]
    simp only [show ¬ c + 1 = 7 by omega, show ¬ c + 1 = 8 by omega, show ¬ c + 1 = 9 by omega, if_false, Nat.add_sub_cancel]
    have hi6 : i < 6 := by
      have : wlen (c + 1) = 6 := by unfold wlen; rw [if_neg (by omega), if_neg (by omega)]
      omega
    by_cases e2 : i = p
    · rw [if_pos e2, if_pos (by omega)]
    · rw [if_neg e2, if_neg (by omega)]
  · rw [if_neg e]
    have h6 : k ≤ 6 → i < 6 := fun z => by
      have : wlen k = 6 := by unfold wlen; rw [if_neg (by omega), if_neg (by omega)]
      omega
    by_cases e7 : k = 7
    · rw [if_pos e7, if_pos e7, if_neg (by omega)]
    · rw [if_neg e7, if_neg e7]
      by_cases e8 : k = 8
      · rw [if_pos e8, if_pos e8, if_neg (by omega)]
      · rw [if_neg e8, if_neg e8]
        by_cases e9 : k = 9
        · rw [if_pos e9, if_pos e9]
        · rw [if_neg e9, if_neg e9, if_neg (by omega)]
theorem WG.up7 {h : Hp} {w p c : Nat} {g L : Nat → Int32} {o x : Int32} {v : Value} (hp : p < 6) (hc : c < 4) (hW : WAt h w (wup (toS g o L v) 7 (4 * p + c) x)) : WG h w (upd g (10 * p + (6 + c)) x) o L v := by
  refine WAt.ex2 hW (show (wup (toS g o L v) 7 (4 * p + c) x).2 = _ from toS_2 (by omega)) fun k h1 h9 i hi => ?_
  unfold wup toS
  dsimp only
  simp only [upd_if]
  by_cases e7 : k = 7
  · subst e7
    show (if i = 4 * p + c then x else g (10 * (i / 4) + (6 + i % 4))) = (if 10 * (i / 4) + (6 + i % 4) = 10 * p + (6 + c) then x else g (10 * (i / 4) + (6 + i % 4)))
    have hi2 : i < 24 := hi
    by_cases e2 : i = 4 * p + c
    · rw [if_pos e2, if_pos (by omega)]
    · rw [if_neg e2, if_neg (by omega)]
  · rw [if_neg e7, if_neg e7, if_neg e7]
    have h6 : k ≤ 6 → i < 6 := fun z => by
      have : wlen k = 6 := by unfold wlen; rw [if_neg (by omega), if_neg (by omega)]
      omega
    by_cases e8 : k = 8
    · rw [if_pos e8, if_pos e8, if_neg (by omega)]
    · rw [if_neg e8, if_neg e8]
      by_cases e9 : k = 9
      · rw [if_pos e9, if_pos e9]
      · rw [if_neg e9, if_neg e9, if_neg (by omega)]
theorem WG.up8 {h : Hp} {w c : Nat} {g L : Nat → Int32} {o x : Int32} {v : Value} (hc : c < 4) (hW : WAt h w (wup (toS g o L v) 8 c x)) : WG h w (upd g (63 + c) x) o L v := by
  refine WAt.ex2 hW (show (wup (toS g o L v) 8 c x).2 = _ from toS_2 (by omega)) fun k h1 h9 i hi => ?_
  unfold wup toS
  dsimp only
  simp only [upd_if]
  by_cases e8 : k = 8
  · subst e8
    show (if i = c then x else g (63 + i)) = (if 63 + i = 63 + c then x else g (63 + i))
    by_cases e2 : i = c
    · rw [if_pos e2, if_pos (by omega)]
    · rw [if_neg e2, if_neg (by omega)]
  · rw [if_neg e8, if_neg e8, if_neg e8]
    have h6 : k ≤ 6 → i < 6 := fun z => by
      have : wlen k = 6 := by unfold wlen; rw [if_neg (by omega), if_neg (by omega)]
      omega
    by_cases e7 : k = 7
    · have hi2 : i < 24 := by subst e7; exact hi
      rw [if_pos e7, if_pos e7, if_neg (by omega)]
    · rw [if_neg e7, if_neg e7]
      by_cases e9 : k = 9
      · rw [if_pos e9, if_pos e9]
      · rw [if_neg e9, if_neg e9, if_neg (by omega)]
theorem WG.up9 {h : Hp} {w c : Nat} {g L : Nat → Int32} {o x : Int32} {v : Value} (hW : WAt h w (wup (toS g o L v) 9 c x)) : WG h w g o (upd L c x) v := by
  refine hW.ext (A := (toS g o (upd L c x) v).1) fun k h1 h9 i hi => ?_
  unfold wup toS
  dsimp only
  simp only [upd_if]
  by_cases e9 : k = 9
  · subst e9; rfl
  · rw [if_neg e9, if_neg e9, if_neg e9]
theorem WG.sc {h : Hp} {w kf : Nat} {g L : Nat → Int32} {o x : Int32} {v : Value} (hk : kf = 10 ∨ kf = 11 ∨ kf = 12 ∨ kf = 13) (hW : WAt h w (wsc (toS g o L v) kf x)) : WG h w (upd g (gsc kf) x) o L v := by
  have e : (wsc (toS g o L v) kf x).2.1 = fun j => if j = kf then x else (toS g o L v).2.1 j := rfl
  refine ⟨hW.1, ?_, fun k h1 h9 => ?_, hW.2.2.2⟩
  · rw [hW.2.1]
    rcases hk with rfl | rfl | rfl | rfl <;> rfl
  · obtain ⟨f, e1, e2⟩ := hW.2.2.1 k h1 h9
    refine ⟨f, e1, fun i hi => (e2 i hi).trans ?_⟩
    unfold wsc toS
    dsimp only
    simp only [upd_if]
    have h6 : k ≤ 6 → i < 6 := fun z => by
      have : wlen k = 6 := by unfold wlen; rw [if_neg (by omega), if_neg (by omega)]
      omega
    have hg : 60 ≤ gsc kf ∧ (gsc kf < 63 ∨ 67 ≤ gsc kf) := by rcases hk with rfl | rfl | rfl | rfl <;> decide
    by_cases e7 : k = 7
    · have hi2 : i < 24 := by subst e7; exact hi
      rw [if_pos e7, if_pos e7, if_neg (by omega)]
    · rw [if_neg e7, if_neg e7]
      by_cases e8 : k = 8
      · have hi2 : i < 4 := by subst e8; exact hi
        rw [if_pos e8, if_pos e8, if_neg (by omega)]
      · rw [if_neg e8, if_neg e8]
        by_cases e9 : k = 9
        · rw [if_pos e9, if_pos e9]
        · rw [if_neg e9, if_neg e9, if_neg (by omega)]
theorem WG.se {h : Hp} {w : Nat} {g L : Nat → Int32} {o : Int32} {v v' : Value} (hW : WAt h w (wse (toS g o L v) v')) : WG h w g o L v' := hW
theorem WG.gx {h : Hp} {w : Nat} {g g' L : Nat → Int32} {o : Int32} {v : Value} (hW : WG h w g o L v) (he : ∀ j, j < 68 → g j = g' j) : WG h w g' o L v := by
  have e2 : (toS g o L v).2 = (toS g' o L v).2 := by
    unfold toS
    dsimp only
    rw [he 60 (by omega), he 61 (by omega), he 62 (by omega), he 67 (by omega)]
  have z := hW.ext (A := (toS g' o L v).1) fun k h1 h9 i hi => by
    unfold toS
    dsimp only
    have h6 : k ≤ 6 → i < 6 := fun z => by
      have : wlen k = 6 := by unfold wlen; rw [if_neg (by omega), if_neg (by omega)]
      omega
    by_cases e7 : k = 7
    · have hi2 : i < 24 := by subst e7; exact hi
      rw [if_pos e7, if_pos e7, he _ (by omega)]
    · rw [if_neg e7, if_neg e7]
      by_cases e8 : k = 8
      · have hi2 : i < 4 := by subst e8; exact hi
        rw [if_pos e8, if_pos e8, he _ (by omega)]
      · rw [if_neg e8, if_neg e8]
        by_cases e9 : k = 9
        · rw [if_pos e9, if_pos e9]
        · rw [if_neg e9, if_neg e9, he _ (by omega)]
  rw [e2] at z
  exact z
section ZG
variable {l : Launch} {G : GT} {M : MT} {d mc ms k n pc pc' : Nat} {Q : Option Value → Hp → Prop} {h : Hp} {lv : LV} {st : List Value} {w : Nat} {g L : Nat → Int32} {o : Int32} {v : Value}
theorem aw_Gint {kf idx : Nat} (hW : WG h w g o L v) (hd : decode M.2.1 pc = .ok (.getfield idx, 3)) (hn : pc + 3 = pc') (hk : kf = 10 ∨ kf = 11 ∨ kf = 12 ∨ kf = 13) (hw : Cond.fieldLink M.1 idx (TX5 kf).1 (TX5 kf).2.1 (TX5 kf).2.2.1 ∈ TB)
    (kk : AW l G M d mc ms Q k n h lv (.int (g (gsc kf)) :: st) pc') : AW l G M d mc ms Q k n h lv (.ref w :: st) pc := by
  refine aw_Wint hW hd hn (Or.inr hk) hw ?_
  rcases hk with rfl | rfl | rfl | rfl <;> exact kk
theorem aw_Gold {idx : Nat} (hW : WG h w g o L v) (hd : decode M.2.1 pc = .ok (.getfield idx, 3)) (hn : pc + 3 = pc') (hw : Cond.fieldLink M.1 idx (TX5 0).1 (TX5 0).2.1 (TX5 0).2.2.1 ∈ TB)
    (kk : AW l G M d mc ms Q k n h lv (.int o :: st) pc') : AW l G M d mc ms Q k n h lv (.ref w :: st) pc :=
  aw_Wint hW hd hn (Or.inl rfl) hw kk
theorem aw_Gsea {idx : Nat} (hW : WG h w g o L v) (hd : decode M.2.1 pc = .ok (.getfield idx, 3)) (hn : pc + 3 = pc') (hw : Cond.fieldLink M.1 idx (TX5 14).1 (TX5 14).2.1 (TX5 14).2.2.1 ∈ TB)
    (kk : AW l G M d mc ms Q k n h lv (v :: st) pc') : AW l G M d mc ms Q k n h lv (.ref w :: st) pc :=
  aw_Wsea hW hd hn hw kk
theorem aw_Gld {i : Int32} (kf c p : Nat) (hW : WG h w g o L v) (hd : decode M.2.1 pc = .ok (.iaload, 1)) (hn : pc + 1 = pc') (hk : 1 ≤ kf ∧ kf ≤ 6) (hc : c + 1 = kf) (hi : vp_in i 6) (hp : i.toNatClampNeg = p)
    (kk : AW l G M d mc ms Q k n h lv (.int (g (10 * p + c)) :: st) pc') : AW l G M d mc ms Q k n h lv (.int i :: .ref (w + kf) :: st) pc := by
  subst hc hp
  have e6 : wlen (c + 1) = 6 := by unfold wlen; rw [if_neg (by omega), if_neg (by omega)]
  refine aw_Wald (c + 1) hW hd hn (by omega) (by rw [e6]; exact hi) ?_
  rw [show (toS g o L v).1 (c + 1) i.toNatClampNeg = g (10 * i.toNatClampNeg + c) by
    unfold toS
    dsimp only
    rw [if_neg (by omega), if_neg (by omega), if_neg (by omega), Nat.add_sub_cancel]]
  exact kk
theorem aw_Gld7 {i : Int32} (p c : Nat) (hW : WG h w g o L v) (hd : decode M.2.1 pc = .ok (.iaload, 1)) (hn : pc + 1 = pc') (hc : c < 4) (hi : vp_in i 24) (hp : i.toNatClampNeg = 4 * p + c)
    (kk : AW l G M d mc ms Q k n h lv (.int (g (10 * p + (6 + c))) :: st) pc') : AW l G M d mc ms Q k n h lv (.int i :: .ref (w + 7) :: st) pc := by
  refine aw_Wald 7 hW hd hn (by decide) hi ?_
  rw [hp, show (toS g o L v).1 7 (4 * p + c) = g (10 * p + (6 + c)) by
    unfold toS
    dsimp only
    rw [if_pos rfl, show (4 * p + c) / 4 = p by omega, show (4 * p + c) % 4 = c by omega]]
  exact kk
theorem aw_Gld8 {i : Int32} (c : Nat) (hW : WG h w g o L v) (hd : decode M.2.1 pc = .ok (.iaload, 1)) (hn : pc + 1 = pc') (hi : vp_in i 4) (hp : i.toNatClampNeg = c)
    (kk : AW l G M d mc ms Q k n h lv (.int (g (63 + c)) :: st) pc') : AW l G M d mc ms Q k n h lv (.int i :: .ref (w + 8) :: st) pc := by
  refine aw_Wald 8 hW hd hn (by decide) hi ?_
  rw [hp]
  exact kk
theorem aw_Gst {i x : Int32} (kf c p : Nat) (hW : WG h w g o L v) (hd : decode M.2.1 pc = .ok (.iastore, 1)) (hn : pc + 1 = pc') (hk : 1 ≤ kf ∧ kf ≤ 6) (hc : c + 1 = kf) (hi : vp_in i 6) (hp : i.toNatClampNeg = p)
    (kk : ∀ h', WG h' w (upd g (10 * p + c) x) o L v → Same w 10 h h' → AW l G M d mc ms Q k n h' lv st pc') : AW l G M d mc ms Q k n h lv (.int x :: .int i :: .ref (w + kf) :: st) pc := by
  subst hp
  have e6 : wlen kf = 6 := by unfold wlen; rw [if_neg (by omega), if_neg (by omega)]
  have hp6 : i.toNatClampNeg < 6 := Nat.not_le.mp fun q => hi (Or.inr q)
  exact aw_Wast kf hW hd hn (by omega) (by rw [e6]; exact hi) fun h' a b => kk h' (WG.up hk hc hp6 a) b
theorem aw_Gst7 {i x : Int32} (p c : Nat) (hW : WG h w g o L v) (hd : decode M.2.1 pc = .ok (.iastore, 1)) (hn : pc + 1 = pc') (hp6 : p < 6) (hc : c < 4) (hi : vp_in i 24) (hp : i.toNatClampNeg = 4 * p + c)
    (kk : ∀ h', WG h' w (upd g (10 * p + (6 + c)) x) o L v → Same w 10 h h' → AW l G M d mc ms Q k n h' lv st pc') : AW l G M d mc ms Q k n h lv (.int x :: .int i :: .ref (w + 7) :: st) pc :=
  aw_Wast 7 hW hd hn (by decide) hi fun h' a b => kk h' (WG.up7 hp6 hc (by rw [hp] at a; exact a)) b
theorem aw_Gst8 {i x : Int32} (c : Nat) (hW : WG h w g o L v) (hd : decode M.2.1 pc = .ok (.iastore, 1)) (hn : pc + 1 = pc') (hc : c < 4) (hi : vp_in i 4) (hp : i.toNatClampNeg = c)
    (kk : ∀ h', WG h' w (upd g (63 + c) x) o L v → Same w 10 h h' → AW l G M d mc ms Q k n h' lv st pc') : AW l G M d mc ms Q k n h lv (.int x :: .int i :: .ref (w + 8) :: st) pc :=
  aw_Wast 8 hW hd hn (by decide) hi fun h' a b => kk h' (WG.up8 hc (by rw [hp] at a; exact a)) b
theorem aw_Gst9 {i x : Int32} (c : Nat) (hW : WG h w g o L v) (hd : decode M.2.1 pc = .ok (.iastore, 1)) (hn : pc + 1 = pc') (hi : vp_in i 6) (hp : i.toNatClampNeg = c)
    (kk : ∀ h', WG h' w g o (upd L c x) v → Same w 10 h h' → AW l G M d mc ms Q k n h' lv st pc') : AW l G M d mc ms Q k n h lv (.int x :: .int i :: .ref (w + 9) :: st) pc :=
  aw_Wast 9 hW hd hn (by decide) hi fun h' a b => kk h' (WG.up9 (by rw [hp] at a; exact a)) b
theorem aw_Gput {x : Int32} (kf : Nat) {idx : Nat} (hW : WG h w g o L v) (hd : decode M.2.1 pc = .ok (.putfield idx, 3)) (hn : pc + 3 = pc') (hk : kf = 10 ∨ kf = 11 ∨ kf = 12 ∨ kf = 13) (hw : Cond.fieldLink M.1 idx (TX5 kf).1 (TX5 kf).2.1 (TX5 kf).2.2.1 ∈ TB)
    (kk : ∀ h', WG h' w (upd g (gsc kf) x) o L v → Same w 10 h h' → AW l G M d mc ms Q k n h' lv st pc') : AW l G M d mc ms Q k n h lv (.int x :: .ref w :: st) pc :=
  aw_Wput kf hW hd hn hk hw fun h' a b => kk h' (WG.sc hk a) b
theorem aw_Gpse {v' : Value} {idx : Nat} (hW : WG h w g o L v) (hd : decode M.2.1 pc = .ok (.putfield idx, 3)) (hn : pc + 3 = pc') (hw : Cond.fieldLink M.1 idx (TX5 14).1 (TX5 14).2.1 (TX5 14).2.2.1 ∈ TB) (hv : zisr v')
    (kk : ∀ h', WG h' w g o L v' → Same w 10 h h' → AW l G M d mc ms Q k n h' lv st pc') : AW l G M d mc ms Q k n h lv (v' :: .ref w :: st) pc :=
  aw_Wpse hW hd hn hw hv fun h' a b => kk h' (WG.se a) b
end ZG
