/-! pictures of objects: a World at w (its arrays at w + 1 .. w + 9), the model at u (its arrays at u + 1 .. u + 18) -/
/-- what is outside w .. w + n - 1 stays -/
def Same (w n : Nat) (h h' : Hp) : Prop := h'.1 = h.1 ∧ ∀ a, a < w ∨ w + n ≤ a → h'.2 a = h.2 a
theorem Same.rf {w n : Nat} {h : Hp} : Same w n h h := ⟨rfl, fun _ _ => rfl⟩
theorem Same.tr {w n : Nat} {h h1 h2 : Hp} (a : Same w n h h1) (b : Same w n h1 h2) : Same w n h h2 := ⟨b.1.trans a.1, fun x hx => (b.2 x hx).trans (a.2 x hx)⟩
theorem Same.hset {w n a : Nat} {h : Hp} {e : zE} (h1 : w ≤ a) (h2 : a < w + n) : Same w n h (hset h a e) := ⟨rfl, fun x hx => if_neg (by omega)⟩
theorem hset_eq (h : Hp) (a : Nat) (e : zE) : (hset h a e).2 a = e := if_pos rfl
theorem hset_ne {h : Hp} {a x : Nat} {e : zE} (hx : x ≠ a) : (hset h a e).2 x = h.2 x := if_neg hx
abbrev WT : Type := (Nat → Nat → Int32) × (Nat → Int32) × Value
def wlen (k : Nat) : Nat := if k = 7 then 24 else if k = 8 then 4 else 6
def wfs (w : Nat) (S : WT) : List Value := [.int (S.2.1 0), .ref (w + 1), .ref (w + 2), .ref (w + 3), .ref (w + 4), .ref (w + 5), .ref (w + 6), .ref (w + 7), .ref (w + 8), .ref (w + 9), .int (S.2.1 10), .int (S.2.1 11), .int (S.2.1 12), .int (S.2.1 13), S.2.2]
def WAt (h : Hp) (w : Nat) (S : WT) : Prop := 16 ≤ w ∧ h.2 w = .inr (5, wfs w S) ∧ (∀ k, 1 ≤ k → k ≤ 9 → ∃ f, h.2 (w + k) = .inl (0, (wlen k, .inl f)) ∧ ∀ i, i < wlen k → f i = S.1 k i) ∧ zisr S.2.2
def wup (S : WT) (k i : Nat) (x : Int32) : WT := (fun j => if j = k then upd (S.1 k) i x else S.1 j, S.2.1, S.2.2)
def wsc (S : WT) (k : Nat) (x : Int32) : WT := (S.1, fun j => if j = k then x else S.2.1 j, S.2.2)
def wse (S : WT) (v : Value) : WT := (S.1, S.2.1, v)
theorem WAt.fr {h h' : Hp} {w w2 n : Nat} {S : WT} (hW : WAt h w S) (hs : Same w2 n h h') (hd : w + 10 ≤ w2 ∨ w2 + n ≤ w) : WAt h' w S :=
  ⟨hW.1, (hs.2 w (by omega)).trans hW.2.1, fun k h1 h2 => by
    obtain ⟨f, e1, e2⟩ := hW.2.2.1 k h1 h2
    exact ⟨f, (hs.2 (w + k) (by omega)).trans e1, e2⟩, hW.2.2.2⟩
theorem WAt.up {h : Hp} {w k i : Nat} {S : WT} {x : Int32} (hW : WAt h w S) (h1 : 1 ≤ k) (h9 : k ≤ 9) : WAt (hset h (w + k) (zseti (h.2 (w + k)) i x)) w (wup S k i x) := by
  refine ⟨hW.1, (hset_ne (by omega)).trans hW.2.1, fun j j1 j9 => ?_, hW.2.2.2⟩
  obtain ⟨f, e1, e2⟩ := hW.2.2.1 j j1 j9
  by_cases hj : j = k
  · subst hj
    refine ⟨upd f i x, by rw [hset_eq, e1]; rfl, fun q hq => ?_⟩
    show (if q = i then x else f q) = (if j = j then upd (S.1 j) i x else S.1 j) q
    rw [if_pos rfl]
    show _ = if q = i then x else S.1 j q
    rw [e2 q hq]
  · refine ⟨f, by rw [hset_ne (by omega), e1], fun q hq => ?_⟩
    show f q = (if j = k then upd (S.1 k) i x else S.1 j) q
    rw [if_neg hj]
    exact e2 q hq
theorem WAt.ext {h : Hp} {w : Nat} {S : WT} {A : Nat → Nat → Int32} (hW : WAt h w S) (he : ∀ k, 1 ≤ k → k ≤ 9 → ∀ i, i < wlen k → S.1 k i = A k i) : WAt h w (A, S.2.1, S.2.2) :=
  ⟨hW.1, hW.2.1, fun k h1 h9 => by
    obtain ⟨f, e1, e2⟩ := hW.2.2.1 k h1 h9
    exact ⟨f, e1, fun i hi => (e2 i hi).trans (he k h1 h9 i hi)⟩, hW.2.2.2⟩
theorem wsc_fs (w : Nat) (S : WT) (kf : Nat) (x : Int32) (hk : kf = 10 ∨ kf = 11 ∨ kf = 12 ∨ kf = 13) : (wfs w S).set kf (.int x) = wfs w (wsc S kf x) := by
  rcases hk with rfl | rfl | rfl | rfl <;> rfl
theorem WAt.sc {h : Hp} {w kf : Nat} {S : WT} {x : Int32} (hW : WAt h w S) (hk : kf = 10 ∨ kf = 11 ∨ kf = 12 ∨ kf = 13) : WAt (hset h w (zsetf (h.2 w) kf (.int x))) w (wsc S kf x) := by
  refine ⟨hW.1, ?_, fun j j1 j9 => by
    obtain ⟨f, e1, e2⟩ := hW.2.2.1 j j1 j9
    exact ⟨f, (hset_ne (by omega)).trans e1, e2⟩, hW.2.2.2⟩
  rw [hset_eq, hW.2.1]
  show (Sum.inr (5, (wfs w S).set kf (.int x)) : zE) = _
  rw [wsc_fs w S kf x hk]
theorem WAt.se {h : Hp} {w : Nat} {S : WT} {v : Value} (hW : WAt h w S) (hv : zisr v) : WAt (hset h w (zsetf (h.2 w) 14 v)) w (wse S v) := by
  refine ⟨hW.1, ?_, fun j j1 j9 => by
    obtain ⟨f, e1, e2⟩ := hW.2.2.1 j j1 j9
    exact ⟨f, (hset_ne (by omega)).trans e1, e2⟩, hv⟩
  rw [hset_eq, hW.2.1]
  rfl
abbrev MS : Type := (Nat → Nat → Int32) × (Nat → Int32) × (Nat → Nat → Int64)
def mlen (j : Nat) : Nat := [0, 123, 123, 123, 100, 600, 6, 100, 6, 6, 15, 4, 7, 21, 20, 6, 6, 360, 60].getD j 0
def mkd (j : Nat) : Nat := if j = 9 ∨ j = 10 then 2 else 0
def mfs (u : Nat) (S : MS) : List Value := [.ref (u + 1), .ref (u + 2), .ref (u + 3), .int (S.2.1 3), .ref (u + 4), .int (S.2.1 5), .ref (u + 5), .ref (u + 6), .int (S.2.1 8), .ref (u + 7), .int (S.2.1 10), .int (S.2.1 11), .int (S.2.1 12), .int (S.2.1 13), .int (S.2.1 14), .int (S.2.1 15), .ref (u + 8), .ref (u + 9), .ref (u + 10), .ref (u + 11), .ref (u + 12), .ref (u + 13), .ref (u + 14), .int (S.2.1 23), .ref (u + 15), .ref (u + 16), .ref (u + 17), .ref (u + 18)]
/-- which array a field holds -/
def mof (k : Nat) : Nat := [1, 2, 3, 0, 4, 0, 5, 6, 0, 7, 0, 0, 0, 0, 0, 0, 8, 9, 10, 11, 12, 13, 14, 0, 15, 16, 17, 18].getD k 0
def MAt (h : Hp) (u : Nat) (S : MS) : Prop := 16 ≤ u ∧ h.2 u = .inr (7, mfs u S) ∧ (∀ j, 1 ≤ j → j ≤ 16 → ∃ f, h.2 (u + j) = .inl (mkd j, (mlen j, .inl f)) ∧ ∀ i, i < mlen j → f i = S.1 j i) ∧ (∀ j, 17 ≤ j → j ≤ 18 → ∃ f, h.2 (u + j) = .inl (3, (mlen j, .inr (.inl f))) ∧ ∀ i, i < mlen j → f i = S.2.2 j i)
def mup (S : MS) (k i : Nat) (x : Int32) : MS := (fun j => if j = k then upd (S.1 k) i x else S.1 j, S.2.1, S.2.2)
def msc (S : MS) (k : Nat) (x : Int32) : MS := (S.1, fun j => if j = k then x else S.2.1 j, S.2.2)
def mupL (S : MS) (k i : Nat) (x : Int64) : MS := (S.1, S.2.1, fun j => if j = k then vp_updL (S.2.2 k) i x else S.2.2 j)
theorem MAt.fr {h h' : Hp} {u w2 n : Nat} {S : MS} (hW : MAt h u S) (hs : Same w2 n h h') (hd : u + 19 ≤ w2 ∨ w2 + n ≤ u) : MAt h' u S :=
  ⟨hW.1, (hs.2 u (by omega)).trans hW.2.1, fun k h1 h2 => by
    obtain ⟨f, e1, e2⟩ := hW.2.2.1 k h1 h2
    exact ⟨f, (hs.2 (u + k) (by omega)).trans e1, e2⟩, fun k h1 h2 => by
    obtain ⟨f, e1, e2⟩ := hW.2.2.2 k h1 h2
    exact ⟨f, (hs.2 (u + k) (by omega)).trans e1, e2⟩⟩
theorem MAt.up {h : Hp} {u k i : Nat} {S : MS} {x : Int32} (hW : MAt h u S) (h1 : 1 ≤ k) (h9 : k ≤ 16) : MAt (hset h (u + k) (zseti (h.2 (u + k)) i x)) u (mup S k i x) := by
  refine ⟨hW.1, (hset_ne (by omega)).trans hW.2.1, fun j j1 j9 => ?_, fun j j1 j9 => by
    obtain ⟨f, e1, e2⟩ := hW.2.2.2 j j1 j9
    exact ⟨f, (hset_ne (by omega)).trans e1, e2⟩⟩
  obtain ⟨f, e1, e2⟩ := hW.2.2.1 j j1 j9
  by_cases hj : j = k
  · subst hj
    refine ⟨upd f i x, by rw [hset_eq, e1]; rfl, fun q hq => ?_⟩
    show (if q = i then x else f q) = (if j = j then upd (S.1 j) i x else S.1 j) q
    rw [if_pos rfl]
    show _ = if q = i then x else S.1 j q
    rw [e2 q hq]
  · refine ⟨f, by rw [hset_ne (by omega), e1], fun q hq => ?_⟩
    show f q = (if j = k then upd (S.1 k) i x else S.1 j) q
    rw [if_neg hj]
    exact e2 q hq
theorem MAt.upL {h : Hp} {u k i : Nat} {S : MS} {x : Int64} (hW : MAt h u S) (h1 : 17 ≤ k) (h9 : k ≤ 18) : MAt (hset h (u + k) (zsetj (h.2 (u + k)) i x)) u (mupL S k i x) := by
  refine ⟨hW.1, (hset_ne (by omega)).trans hW.2.1, fun j j1 j9 => by
    obtain ⟨f, e1, e2⟩ := hW.2.2.1 j j1 j9
    exact ⟨f, (hset_ne (by omega)).trans e1, e2⟩, fun j j1 j9 => ?_⟩
  obtain ⟨f, e1, e2⟩ := hW.2.2.2 j j1 j9
  by_cases hj : j = k
  · subst hj
    refine ⟨vp_updL f i x, by rw [hset_eq, e1]; rfl, fun q hq => ?_⟩
    show (if q = i then x else f q) = (if j = j then vp_updL (S.2.2 j) i x else S.2.2 j) q
    rw [if_pos rfl]
    show _ = if q = i then x else S.2.2 j q
    rw [e2 q hq]
  · refine ⟨f, by rw [hset_ne (by omega), e1], fun q hq => ?_⟩
    show f q = (if j = k then vp_updL (S.2.2 k) i x else S.2.2 j) q
    rw [if_neg hj]
    exact e2 q hq
theorem MAt.ext {h : Hp} {u : Nat} {S : MS} {A : Nat → Nat → Int32} (hW : MAt h u S) (he : ∀ j, 1 ≤ j → j ≤ 16 → ∀ i, i < mlen j → S.1 j i = A j i) : MAt h u (A, S.2.1, S.2.2) :=
  ⟨hW.1, hW.2.1, fun k h1 h9 => by
    obtain ⟨f, e1, e2⟩ := hW.2.2.1 k h1 h9
    exact ⟨f, e1, fun i hi => (e2 i hi).trans (he k h1 h9 i hi)⟩, hW.2.2.2⟩
def msk (kf : Nat) : Bool := [3, 5, 8, 10, 11, 12, 13, 14, 15, 23].contains kf
theorem msk_or {kf : Nat} (hk : msk kf = true) : kf = 3 ∨ kf = 5 ∨ kf = 8 ∨ kf = 10 ∨ kf = 11 ∨ kf = 12 ∨ kf = 13 ∨ kf = 14 ∨ kf = 15 ∨ kf = 23 := by
  simp [msk] at hk
  omega
theorem MAt.sc {h : Hp} {u kf : Nat} {S : MS} {x : Int32} (hW : MAt h u S) (hk : msk kf = true) : MAt (hset h u (zsetf (h.2 u) kf (.int x))) u (msc S kf x) := by
  refine ⟨hW.1, ?_, fun j j1 j9 => by
    obtain ⟨f, e1, e2⟩ := hW.2.2.1 j j1 j9
    exact ⟨f, (hset_ne (by omega)).trans e1, e2⟩, fun j j1 j9 => by
    obtain ⟨f, e1, e2⟩ := hW.2.2.2 j j1 j9
    exact ⟨f, (hset_ne (by omega)).trans e1, e2⟩⟩
  rw [hset_eq, hW.2.1]
  show (Sum.inr (7, (mfs u S).set kf (.int x)) : zE) = .inr (7, mfs u (msc S kf x))
  rcases msk_or hk with rfl | rfl | rfl | rfl | rfl | rfl | rfl | rfl | rfl | rfl <;> rfl
section ZP
variable {l : Launch} {G : GT} {M : MT} {d mc ms k n pc pc' : Nat} {Q : Option Value → Hp → Prop} {h : Hp} {lv : LV} {st : List Value} {w u : Nat} {S : WT} {U : MS}
theorem aw_Wref {kf idx : Nat} (hW : WAt h w S) (hd : decode M.2.1 pc = .ok (.getfield idx, 3)) (hn : pc + 3 = pc') (hk : 1 ≤ kf ∧ kf ≤ 9) (hw : Cond.fieldLink M.1 idx (TX5 kf).1 (TX5 kf).2.1 (TX5 kf).2.2.1 ∈ TB)
    (kk : AW l G M d mc ms Q k n h lv (.ref (w + kf) :: st) pc') : AW l G M d mc ms Q k n h lv (.ref w :: st) pc := by
  refine aw_getf (ci := 5) (kf := kf) hd hn (by rw [hW.2.1]; exact ⟨rfl, rfl⟩) rfl inX5 (by omega) hw ?_
  rw [hW.2.1]
  obtain ⟨h1, h9⟩ := hk
  rcases (by omega : kf = 1 ∨ kf = 2 ∨ kf = 3 ∨ kf = 4 ∨ kf = 5 ∨ kf = 6 ∨ kf = 7 ∨ kf = 8 ∨ kf = 9) with rfl | rfl | rfl | rfl | rfl | rfl | rfl | rfl | rfl <;> exact kk
theorem aw_Wint {kf idx : Nat} (hW : WAt h w S) (hd : decode M.2.1 pc = .ok (.getfield idx, 3)) (hn : pc + 3 = pc') (hk : kf = 0 ∨ kf = 10 ∨ kf = 11 ∨ kf = 12 ∨ kf = 13) (hw : Cond.fieldLink M.1 idx (TX5 kf).1 (TX5 kf).2.1 (TX5 kf).2.2.1 ∈ TB)
    (kk : AW l G M d mc ms Q k n h lv (.int (S.2.1 kf) :: st) pc') : AW l G M d mc ms Q k n h lv (.ref w :: st) pc := by
  refine aw_getf (ci := 5) (kf := kf) hd hn (by rw [hW.2.1]; exact ⟨rfl, rfl⟩) rfl inX5 (by omega) hw ?_
  rw [hW.2.1]
  rcases hk with rfl | rfl | rfl | rfl | rfl <;> exact kk
theorem aw_Wsea {idx : Nat} (hW : WAt h w S) (hd : decode M.2.1 pc = .ok (.getfield idx, 3)) (hn : pc + 3 = pc') (hw : Cond.fieldLink M.1 idx (TX5 14).1 (TX5 14).2.1 (TX5 14).2.2.1 ∈ TB)
    (kk : AW l G M d mc ms Q k n h lv (S.2.2 :: st) pc') : AW l G M d mc ms Q k n h lv (.ref w :: st) pc := by
  refine aw_getf (ci := 5) (kf := 14) hd hn (by rw [hW.2.1]; exact ⟨rfl, rfl⟩) rfl inX5 (by omega) hw ?_
  rw [hW.2.1]
  exact kk
theorem aw_Wald {i : Int32} (kf : Nat) (hW : WAt h w S) (hd : decode M.2.1 pc = .ok (.iaload, 1)) (hn : pc + 1 = pc') (hk : 1 ≤ kf ∧ kf ≤ 9) (hi : vp_in i (wlen kf))
    (kk : AW l G M d mc ms Q k n h lv (.int (S.1 kf i.toNatClampNeg) :: st) pc') : AW l G M d mc ms Q k n h lv (.int i :: .ref (w + kf) :: st) pc := by
  obtain ⟨f, he, hf⟩ := hW.2.2.1 kf hk.1 hk.2
  refine aw_iaload hd hn (by rw [he]; rfl) (by rw [he]; exact hi) ?_
  rw [he]
  rw [← hf _ (Nat.not_le.mp fun q => hi (Or.inr q))] at kk
  exact kk
theorem aw_Wast {i x : Int32} (kf : Nat) (hW : WAt h w S) (hd : decode M.2.1 pc = .ok (.iastore, 1)) (hn : pc + 1 = pc') (hk : 1 ≤ kf ∧ kf ≤ 9) (hi : vp_in i (wlen kf))
    (kk : ∀ h', WAt h' w (wup S kf i.toNatClampNeg x) → Same w 10 h h' → AW l G M d mc ms Q k n h' lv st pc') : AW l G M d mc ms Q k n h lv (.int x :: .int i :: .ref (w + kf) :: st) pc := by
  obtain ⟨f, he, hf⟩ := hW.2.2.1 kf hk.1 hk.2
  have h16 := hW.1
  exact aw_iastore hd hn (by omega) (by rw [he]; rfl) (by rw [he]; exact hi) (kk _ (hW.up hk.1 hk.2) (Same.hset (by omega) (by omega)))
theorem aw_Wput {x : Int32} (kf : Nat) {idx : Nat} (hW : WAt h w S) (hd : decode M.2.1 pc = .ok (.putfield idx, 3)) (hn : pc + 3 = pc') (hk : kf = 10 ∨ kf = 11 ∨ kf = 12 ∨ kf = 13) (hw : Cond.fieldLink M.1 idx (TX5 kf).1 (TX5 kf).2.1 (TX5 kf).2.2.1 ∈ TB)
    (kk : ∀ h', WAt h' w (wsc S kf x) → Same w 10 h h' → AW l G M d mc ms Q k n h' lv st pc') : AW l G M d mc ms Q k n h lv (.int x :: .ref w :: st) pc := by
  refine aw_putf (ci := 5) (kf := kf) (ty0 := tyX5) hd hn (by rw [hW.2.1]; exact ⟨rfl, rfl⟩) rfl inX5 tyX5_ok nmX5 (by omega) hw (by rcases hk with rfl | rfl | rfl | rfl <;> rfl) (by rcases hk with rfl | rfl | rfl | rfl <;> trivial) (kk _ (hW.sc hk) (Same.hset (by omega) (by omega)))
theorem aw_Wpse {v : Value} {idx : Nat} (hW : WAt h w S) (hd : decode M.2.1 pc = .ok (.putfield idx, 3)) (hn : pc + 3 = pc') (hw : Cond.fieldLink M.1 idx (TX5 14).1 (TX5 14).2.1 (TX5 14).2.2.1 ∈ TB) (hv : zisr v)
    (kk : ∀ h', WAt h' w (wse S v) → Same w 10 h h' → AW l G M d mc ms Q k n h' lv st pc') : AW l G M d mc ms Q k n h lv (v :: .ref w :: st) pc := by
  refine aw_putf (ci := 5) (kf := 14) (ty0 := tyX5) hd hn (by rw [hW.2.1]; exact ⟨rfl, rfl⟩) rfl inX5 tyX5_ok nmX5 (by omega) hw rfl (by cases v <;> first | trivial | exact hv.elim) (kk _ (hW.se hv) (Same.hset (by omega) (by omega)))
/-- the model's fields and arrays -/
theorem aw_Mref {kf idx : Nat} (j : Nat) (hW : MAt h u U) (hd : decode M.2.1 pc = .ok (.getfield idx, 3)) (hn : pc + 3 = pc') (hk : kf < 28 ∧ msk kf = false) (hj : mof kf = j) (hw : Cond.fieldLink M.1 idx (TX7 kf).1 (TX7 kf).2.1 (TX7 kf).2.2.1 ∈ TB)
    (kk : AW l G M d mc ms Q k n h lv (.ref (u + j) :: st) pc') : AW l G M d mc ms Q k n h lv (.ref u :: st) pc := by
  refine aw_getf (ci := 7) (kf := kf) hd hn (by rw [hW.2.1]; exact ⟨rfl, rfl⟩) rfl inX7 hk.1 hw ?_
  rw [hW.2.1]
  subst hj
  obtain ⟨h1, h9⟩ := hk
  rcases (by simp [msk] at h9; omega : kf = 0 ∨ kf = 1 ∨ kf = 2 ∨ kf = 4 ∨ kf = 6 ∨ kf = 7 ∨ kf = 9 ∨ kf = 16 ∨ kf = 17 ∨ kf = 18 ∨ kf = 19 ∨ kf = 20 ∨ kf = 21 ∨ kf = 22 ∨ kf = 24 ∨ kf = 25 ∨ kf = 26 ∨ kf = 27) with rfl | rfl | rfl | rfl | rfl | rfl | rfl | rfl | rfl | rfl | rfl | rfl | rfl | rfl | rfl | rfl | rfl | rfl <;> exact kk
theorem aw_Mint {kf idx : Nat} (hW : MAt h u U) (hd : decode M.2.1 pc = .ok (.getfield idx, 3)) (hn : pc + 3 = pc') (hk : msk kf = true) (hw : Cond.fieldLink M.1 idx (TX7 kf).1 (TX7 kf).2.1 (TX7 kf).2.2.1 ∈ TB)
    (kk : AW l G M d mc ms Q k n h lv (.int (U.2.1 kf) :: st) pc') : AW l G M d mc ms Q k n h lv (.ref u :: st) pc := by
  have hk2 := msk_or hk
  refine aw_getf (ci := 7) (kf := kf) hd hn (by rw [hW.2.1]; exact ⟨rfl, rfl⟩) rfl inX7 (by omega) hw ?_
  rw [hW.2.1]
  rcases hk2 with rfl | rfl | rfl | rfl | rfl | rfl | rfl | rfl | rfl | rfl <;> exact kk
theorem aw_Mald {i : Int32} (j : Nat) (hW : MAt h u U) (hd : decode M.2.1 pc = .ok (.iaload, 1)) (hn : pc + 1 = pc') (hk : 1 ≤ j ∧ j ≤ 16 ∧ mkd j = 0) (hi : vp_in i (mlen j))
    (kk : AW l G M d mc ms Q k n h lv (.int (U.1 j i.toNatClampNeg) :: st) pc') : AW l G M d mc ms Q k n h lv (.int i :: .ref (u + j) :: st) pc := by
  obtain ⟨f, he, hf⟩ := hW.2.2.1 j hk.1 hk.2.1
  rw [hk.2.2] at he
  refine aw_iaload hd hn (by rw [he]; rfl) (by rw [he]; exact hi) ?_
  rw [he]
  rw [← hf _ (Nat.not_le.mp fun q => hi (Or.inr q))] at kk
  exact kk
theorem aw_Mcld {i : Int32} (j : Nat) (hW : MAt h u U) (hd : decode M.2.1 pc = .ok (.caload, 1)) (hn : pc + 1 = pc') (hk : j = 9 ∨ j = 10) (hi : vp_in i (mlen j))
    (kk : AW l G M d mc ms Q k n h lv (.int (U.1 j i.toNatClampNeg) :: st) pc') : AW l G M d mc ms Q k n h lv (.int i :: .ref (u + j) :: st) pc := by
  obtain ⟨f, he, hf⟩ := hW.2.2.1 j (by omega) (by omega)
  rw [show mkd j = 2 from if_pos hk] at he
  have h16 := hW.1
  refine aw_caload hd hn (by omega) (by rw [he]; rfl) (by rw [he]; exact hi) ?_
  rw [he]
  rw [← hf _ (Nat.not_le.mp fun q => hi (Or.inr q))] at kk
  exact kk
theorem aw_Mjld {i : Int32} (j : Nat) (hW : MAt h u U) (hd : decode M.2.1 pc = .ok (.laload, 1)) (hn : pc + 1 = pc') (hk : 17 ≤ j ∧ j ≤ 18) (hi : vp_in i (mlen j))
    (kk : AW l G M d mc ms Q k n h lv (.long (U.2.2 j i.toNatClampNeg) :: st) pc') : AW l G M d mc ms Q k n h lv (.int i :: .ref (u + j) :: st) pc := by
  obtain ⟨f, he, hf⟩ := hW.2.2.2 j hk.1 hk.2
  have h16 := hW.1
  refine aw_laload hd hn (by omega) (by rw [he]; rfl) (by rw [he]; exact hi) ?_
  rw [he]
  rw [← hf _ (Nat.not_le.mp fun q => hi (Or.inr q))] at kk
  exact kk
theorem aw_Mast {i x : Int32} (j : Nat) (hW : MAt h u U) (hd : decode M.2.1 pc = .ok (.iastore, 1)) (hn : pc + 1 = pc') (hk : 1 ≤ j ∧ j ≤ 16 ∧ mkd j = 0) (hi : vp_in i (mlen j))
    (kk : ∀ h', MAt h' u (mup U j i.toNatClampNeg x) → Same u 19 h h' → AW l G M d mc ms Q k n h' lv st pc') : AW l G M d mc ms Q k n h lv (.int x :: .int i :: .ref (u + j) :: st) pc := by
  obtain ⟨f, he, hf⟩ := hW.2.2.1 j hk.1 hk.2.1
  rw [hk.2.2] at he
  have h16 := hW.1
  have hj := hk.2.1
  exact aw_iastore hd hn (by omega) (by rw [he]; rfl) (by rw [he]; exact hi) (kk _ (hW.up hk.1 hk.2.1) (Same.hset (by omega) (by omega)))
theorem aw_Mjst {i : Int32} {x : Int64} (j : Nat) (hW : MAt h u U) (hd : decode M.2.1 pc = .ok (.lastore, 1)) (hn : pc + 1 = pc') (hk : 17 ≤ j ∧ j ≤ 18) (hi : vp_in i (mlen j))
    (kk : ∀ h', MAt h' u (mupL U j i.toNatClampNeg x) → Same u 19 h h' → AW l G M d mc ms Q k n h' lv st pc') : AW l G M d mc ms Q k n h lv (.long x :: .int i :: .ref (u + j) :: st) pc := by
  obtain ⟨f, he, hf⟩ := hW.2.2.2 j hk.1 hk.2
  have h16 := hW.1
  exact aw_lastore hd hn (by omega) (by rw [he]; rfl) (by rw [he]; exact hi) (kk _ (hW.upL hk.1 hk.2) (Same.hset (by omega) (by omega)))
theorem aw_Mput {x : Int32} (kf : Nat) {idx : Nat} (hW : MAt h u U) (hd : decode M.2.1 pc = .ok (.putfield idx, 3)) (hn : pc + 3 = pc') (hk : msk kf = true) (hz : kf = 3 ∨ kf = 12 → x = 0 ∨ x = 1) (hw : Cond.fieldLink M.1 idx (TX7 kf).1 (TX7 kf).2.1 (TX7 kf).2.2.1 ∈ TB)
    (kk : ∀ h', MAt h' u (msc U kf x) → Same u 19 h h' → AW l G M d mc ms Q k n h' lv st pc') : AW l G M d mc ms Q k n h lv (.int x :: .ref u :: st) pc := by
  have hk2 := msk_or hk
  refine aw_putf (ci := 7) (kf := kf) (ty0 := tyX7) hd hn (by rw [hW.2.1]; exact ⟨rfl, rfl⟩) rfl inX7 tyX7_ok nmX7 (by omega) hw (by rcases hk2 with rfl | rfl | rfl | rfl | rfl | rfl | rfl | rfl | rfl | rfl <;> rfl) (by rcases hk2 with rfl | rfl | rfl | rfl | rfl | rfl | rfl | rfl | rfl | rfl <;> first | trivial | exact hz (Or.inl rfl) | exact hz (Or.inr rfl)) (kk _ (hW.sc hk) (Same.hset (by omega) (by omega)))
end ZP
