section ZA
variable {l : Launch} {G : GT} {M : MT} {d mc ms k n pc pc' : Nat} {Q : Option Value → Hp → Prop} {h : Hp} {lv : LV} {st : List Value}
theorem gty {G : GT} : ∀ {k : Nat}, k < 5 → (gtys G)[k]? = some (gC G k, ak k)
  | 0, _ => rfl
  | 1, _ => rfl
  | 2, _ => rfl
  | 3, _ => rfl
  | 4, _ => rfl
  | k + 5, h => absurd h (by omega)
theorem zra {s : State} {G : GT} : ∀ (kd : Nat), kd < 4 → va_RA s (gC G kd) (ak kd) → s.vm.findClass ("[" ++ (ak kd).toString) = some (gC G kd)
  | 0, _, h => h
  | 1, _, h => h
  | 2, _, h => h
  | 3, _, h => h
  | k + 4, h5, _ => absurd h5 (by omega)
theorem HR.arr {G : GT} {h : Hp} {H : Heap} (hR : HR G h H) {a k : Nat} {x : vp_A} (h16 : 16 ≤ a) (he : h.2 a = .inl (k, x)) : H[zad G a]? = some (vp_cell (gC G k) (zA G x)) := by
  have h1 := hR.at h16 (by rw [he]; exact zinl)
  rw [he] at h1
  exact h1

theorem aw_iaload {a : Nat} {i : Int32} (hd : decode M.2.1 pc = .ok (.iaload, 1)) (hn : pc + 1 = pc') (he : zIA (h.2 a) 0) (hi : vp_in i (zal (h.2 a)))
    (kk : AW l G M d mc ms Q k n h lv (.int (zai (h.2 a) i.toNatClampNeg) :: st) pc') : AW l G M d mc ms Q k n h lv (.int i :: .ref a :: st) pc := by
  intro p e s m args below meth c H locs ls Z hC hR hS hl hF
  have hx := hC.1
  have hb := hC.2.1
  subst hn
  have hSt := hC.2.2.2.2.2.2.2.2.1
  have hK := hSt.1
  rcases Nat.lt_or_ge a 16 with h16 | h16
  · exact va_ti hx hb (zlow_i hR h16 he hSt) hS hi rfl hd (kk p e s m args below meth c H locs ls Z hC hR hS hl hF)
  · exact va_iald hx hb hK (hR.one h16 he zinl) 0 0 rfl (gty (by decide)) hi hd (kk p e s m args below meth c H locs ls Z hC hR hS hl hF)
theorem aw_baload {a : Nat} {i : Int32} (hd : decode M.2.1 pc = .ok (.baload, 1)) (hn : pc + 1 = pc') (he : zIA (h.2 a) 1) (hi : vp_in i (zal (h.2 a)))
    (kk : AW l G M d mc ms Q k n h lv (.int (zai (h.2 a) i.toNatClampNeg) :: st) pc') : AW l G M d mc ms Q k n h lv (.int i :: .ref a :: st) pc := by
  intro p e s m args below meth c H locs ls Z hC hR hS hl hF
  have hx := hC.1
  have hb := hC.2.1
  subst hn
  have hSt := hC.2.2.2.2.2.2.2.2.1
  have hK := hSt.1
  rcases Nat.lt_or_ge a 16 with h16 | h16
  · exact va_tb hx hb (zlow_i hR h16 he hSt) hS hi rfl hd (kk p e s m args below meth c H locs ls Z hC hR hS hl hF)
  · exact va_bald hx hb hK (hR.one h16 he zinl) 0 1 rfl (gty (by decide)) hi hd (kk p e s m args below meth c H locs ls Z hC hR hS hl hF)
theorem aw_caload {a : Nat} {i : Int32} (hd : decode M.2.1 pc = .ok (.caload, 1)) (hn : pc + 1 = pc') (h16 : 16 ≤ a) (he : zIA (h.2 a) 2) (hi : vp_in i (zal (h.2 a)))
    (kk : AW l G M d mc ms Q k n h lv (.int (zai (h.2 a) i.toNatClampNeg) :: st) pc') : AW l G M d mc ms Q k n h lv (.int i :: .ref a :: st) pc := by
  intro p e s m args below meth c H locs ls Z hC hR hS hl hF
  have hx := hC.1
  have hb := hC.2.1
  subst hn
  have hSt := hC.2.2.2.2.2.2.2.2.1
  have hK := hSt.1
  exact va_cald hx hb hK (hR.one h16 he zinl) 0 2 rfl (gty (by decide)) hi hd (kk p e s m args below meth c H locs ls Z hC hR hS hl hF)
theorem aw_laload {a : Nat} {i : Int32} (hd : decode M.2.1 pc = .ok (.laload, 1)) (hn : pc + 1 = pc') (h16 : 16 ≤ a) (he : zJA (h.2 a) 3) (hi : vp_in i (zal (h.2 a)))
    (kk : AW l G M d mc ms Q k n h lv (.long (zaj (h.2 a) i.toNatClampNeg) :: st) pc') : AW l G M d mc ms Q k n h lv (.int i :: .ref a :: st) pc := by
  intro p e s m args below meth c H locs ls Z hC hR hS hl hF
  have hx := hC.1
  have hb := hC.2.1
  subst hn
  have hSt := hC.2.2.2.2.2.2.2.2.1
  have hK := hSt.1
  exact va_lald hx hb hK (hR.one h16 he zinl) 0 3 rfl (gty (by decide)) hi hd (kk p e s m args below meth c H locs ls Z hC hR hS hl hF)
theorem aw_aaload {a r : Nat} {i : Int32} (hd : decode M.2.1 pc = .ok (.aaload, 1)) (hn : pc + 1 = pc') (h16 : 16 ≤ a) (he : zQA (h.2 a) 4) (hi : vp_in i (zal (h.2 a))) (hr : zaq (h.2 a) i.toNatClampNeg = some r)
    (kk : AW l G M d mc ms Q k n h lv (.ref r :: st) pc') : AW l G M d mc ms Q k n h lv (.int i :: .ref a :: st) pc := by
  intro p e s m args below meth c H locs ls Z hC hR hS hl hF
  have hx := hC.1
  have hb := hC.2.1
  subst hn
  have hSt := hC.2.2.2.2.2.2.2.2.1
  have hK := hSt.1
  have K := kk p e s m args below meth c H locs ls Z hC hR hS hl hF
  refine va_aldq (C := "AmberGrains$Tape") hx hb hK (hR.one h16 he zinl) 0 4 rfl (gty (by decide)) hi hd ?_
  show W p l e (rmd d mc ms) s m args below meth c H locs k n Z (F0 m (pc + 1) ls (va_rf ((zaq (h.2 a) i.toNatClampNeg).map (zad G)) :: st.map (zV G)))
  rw [hr]
  exact K
theorem aw_alen {a kd : Nat} (hd : decode M.2.1 pc = .ok (.arraylength, 1)) (hn : pc + 1 = pc') (h5 : kd < 5) (h16 : 16 ≤ a) (he : zak (h.2 a) = kd)
    (kk : AW l G M d mc ms Q k n h lv (.int (Int32.ofNat (zal (h.2 a))) :: st) pc') : AW l G M d mc ms Q k n h lv (.ref a :: st) pc := by
  intro p e s m args below meth c H locs ls Z hC hR hS hl hF
  have hx := hC.1
  have hb := hC.2.1
  subst hn
  have hSt := hC.2.2.2.2.2.2.2.2.1
  have hK := hSt.1
  have K := kk p e s m args below meth c H locs ls Z hC hR hS hl hF
  obtain ⟨x, hx2⟩ : ∃ x, h.2 a = .inl (kd, x) := by
    unfold zak at he
    split at he
    · rename_i k0 x0 hq
      subst he
      exact ⟨x0, hq⟩
    · omega
  exact va_alen hx hb hK (hR.one h16 hx2 zinl) 0 kd rfl (gty h5) (by rw [hx2]; rfl) hd K
theorem aw_alenL {a kd : Nat} (hd : decode M.2.1 pc = .ok (.arraylength, 1)) (hn : pc + 1 = pc') (h16 : a < 16) (he : zIA (h.2 a) kd)
    (kk : AW l G M d mc ms Q k n h lv (.int (Int32.ofNat (zal (h.2 a))) :: st) pc') : AW l G M d mc ms Q k n h lv (.ref a :: st) pc := by
  intro p e s m args below meth c H locs ls Z hC hR hS hl hF
  have hx := hC.1
  have hb := hC.2.1
  subst hn
  have hSt := hC.2.2.2.2.2.2.2.2.1
  have hK := hSt.1
  exact va_tlen hx hb (zlow_i hR h16 he hSt) hS rfl hd (kk p e s m args below meth c H locs ls Z hC hR hS hl hF)
def zseti (e : zE) (i : Nat) (x : Int32) : zE := .inl (zak e, (zal e, .inl (upd (zai e) i x)))
def zsetj (e : zE) (i : Nat) (x : Int64) : zE := .inl (zak e, (zal e, .inr (.inl (vp_updL (zaj e) i x))))
def zsetq (e : zE) (i : Nat) (x : Option Nat) : zE := .inl (zak e, (zal e, .inr (.inr (.inr (.inr (va_up (zaq e) i x))))))
theorem aw_iastore {a : Nat} {i x : Int32} (hd : decode M.2.1 pc = .ok (.iastore, 1)) (hn : pc + 1 = pc') (h16 : 16 ≤ a) (he : zIA (h.2 a) 0) (hi : vp_in i (zal (h.2 a)))
    (kk : AW l G M d mc ms Q k n (hset h a (zseti (h.2 a) i.toNatClampNeg x)) lv st pc') : AW l G M d mc ms Q k n h lv (.int x :: .int i :: .ref a :: st) pc := by
  intro p e s m args below meth c H locs ls Z hC hR hS hl hF
  have hx := hC.1
  have hb := hC.2.1
  subst hn
  have hSt := hC.2.2.2.2.2.2.2.2.1
  have hK := hSt.1
  have ha := hR.arr h16 he
  refine W.iast hx hb ha ((hK.2 0 _ (gty (by decide))).1 (zal (h.2 a)) (fun j => .int (zai (h.2 a) j))) (fun q => by cases q) (by show ¬ (i < 0 ∨ (arrV _ _ _).slots.size ≤ _); rw [arrV_size]; exact hi) rfl rfl hd fun H1 e1 z oq => ?_
  refine kk p e s m args below meth c H1 _ ls Z hC (hR.set h16 (by rw [he]; exact zinl) ?_ z oq) (zS.put hS z oq h16) hl hF
  show H1[zad G a]? = some (vp_cell (gC G (zak (h.2 a))) (zal (h.2 a), .inl (upd (zai (h.2 a)) i.toNatClampNeg x)))
  rw [show zak (h.2 a) = 0 by rw [he]; rfl, e1]
  show some ((vp_cell (gC G 0) (zal (h.2 a), .inl (zai (h.2 a)))).setSlot i.toNatClampNeg (.int x)) = _
  rw [vp_cell_i, vp_cell_i, arrV_store]
  congr 2
  funext q
  by_cases hq : q = i.toNatClampNeg
  · subst hq
    simp [updV, upd]
  · simp [updV, upd, hq]
theorem aw_bastore {a : Nat} {i x : Int32} (hd : decode M.2.1 pc = .ok (.bastore, 1)) (hn : pc + 1 = pc') (h16 : 16 ≤ a) (he : zIA (h.2 a) 1) (hi : vp_in i (zal (h.2 a)))
    (kk : AW l G M d mc ms Q k n (hset h a (zseti (h.2 a) i.toNatClampNeg (vp_nar .byte x))) lv st pc') : AW l G M d mc ms Q k n h lv (.int x :: .int i :: .ref a :: st) pc := by
  intro p e s m args below meth c H locs ls Z hC hR hS hl hF
  have hx := hC.1
  have hb := hC.2.1
  subst hn
  have hSt := hC.2.2.2.2.2.2.2.2.1
  have hK := hSt.1
  have ha := hR.arr h16 he
  refine W.bast hx hb ha ((hK.2 1 _ (gty (by decide))).1 (zal (h.2 a)) (fun j => .int (zai (h.2 a) j))) (fun q => by cases q) (by show ¬ (i < 0 ∨ (arrV _ _ _).slots.size ≤ _); rw [arrV_size]; exact hi) rfl rfl hd fun H1 e1 z oq => ?_
  refine kk p e s m args below meth c H1 _ ls Z hC (hR.set h16 (by rw [he]; exact zinl) ?_ z oq) (zS.put hS z oq h16) hl hF
  show H1[zad G a]? = some (vp_cell (gC G (zak (h.2 a))) (zal (h.2 a), .inl (upd (zai (h.2 a)) i.toNatClampNeg (vp_nar .byte x))))
  rw [show zak (h.2 a) = 1 by rw [he]; rfl, e1]
  show some ((vp_cell (gC G 1) (zal (h.2 a), .inl (zai (h.2 a)))).setSlot i.toNatClampNeg (.int (vp_nar .byte x))) = _
  rw [vp_cell_i, vp_cell_i, arrV_store]
  congr 2
  funext q
  by_cases hq : q = i.toNatClampNeg
  · subst hq
    simp [updV, upd]
  · simp [updV, upd, hq]
theorem aw_castore {a : Nat} {i x : Int32} (hd : decode M.2.1 pc = .ok (.castore, 1)) (hn : pc + 1 = pc') (h16 : 16 ≤ a) (he : zIA (h.2 a) 2) (hi : vp_in i (zal (h.2 a)))
    (kk : AW l G M d mc ms Q k n (hset h a (zseti (h.2 a) i.toNatClampNeg (vp_nar .char x))) lv st pc') : AW l G M d mc ms Q k n h lv (.int x :: .int i :: .ref a :: st) pc := by
  intro p e s m args below meth c H locs ls Z hC hR hS hl hF
  have hx := hC.1
  have hb := hC.2.1
  subst hn
  have hSt := hC.2.2.2.2.2.2.2.2.1
  have hK := hSt.1
  have ha := hR.arr h16 he
  refine W.cast hx hb ha ((hK.2 2 _ (gty (by decide))).1 (zal (h.2 a)) (fun j => .int (zai (h.2 a) j))) (fun q => by cases q) (by show ¬ (i < 0 ∨ (arrV _ _ _).slots.size ≤ _); rw [arrV_size]; exact hi) rfl rfl hd fun H1 e1 z oq => ?_
  refine kk p e s m args below meth c H1 _ ls Z hC (hR.set h16 (by rw [he]; exact zinl) ?_ z oq) (zS.put hS z oq h16) hl hF
  show H1[zad G a]? = some (vp_cell (gC G (zak (h.2 a))) (zal (h.2 a), .inl (upd (zai (h.2 a)) i.toNatClampNeg (vp_nar .char x))))
  rw [show zak (h.2 a) = 2 by rw [he]; rfl, e1]
  show some ((vp_cell (gC G 2) (zal (h.2 a), .inl (zai (h.2 a)))).setSlot i.toNatClampNeg (.int (vp_nar .char x))) = _
  rw [vp_cell_i, vp_cell_i, arrV_store]
  congr 2
  funext q
  by_cases hq : q = i.toNatClampNeg
  · subst hq
    simp [updV, upd]
  · simp [updV, upd, hq]
theorem aw_lastore {a : Nat} {i : Int32} {x : Int64} (hd : decode M.2.1 pc = .ok (.lastore, 1)) (hn : pc + 1 = pc') (h16 : 16 ≤ a) (he : zJA (h.2 a) 3) (hi : vp_in i (zal (h.2 a)))
    (kk : AW l G M d mc ms Q k n (hset h a (zsetj (h.2 a) i.toNatClampNeg x)) lv st pc') : AW l G M d mc ms Q k n h lv (.long x :: .int i :: .ref a :: st) pc := by
  intro p e s m args below meth c H locs ls Z hC hR hS hl hF
  have hx := hC.1
  have hb := hC.2.1
  subst hn
  have hSt := hC.2.2.2.2.2.2.2.2.1
  have hK := hSt.1
  have ha := hR.arr h16 he
  refine W.last hx hb ha ((hK.2 3 _ (gty (by decide))).1 (zal (h.2 a)) (fun j => .long (zaj (h.2 a) j))) (fun q => by cases q) (by show ¬ (i < 0 ∨ (arrV _ _ _).slots.size ≤ _); rw [arrV_size]; exact hi) rfl rfl hd fun H1 e1 z oq => ?_
  refine kk p e s m args below meth c H1 _ ls Z hC (hR.set h16 (by rw [he]; exact zinl) ?_ z oq) (zS.put hS z oq h16) hl hF
  show H1[zad G a]? = some (vp_cell (gC G (zak (h.2 a))) (zal (h.2 a), .inr (.inl (vp_updL (zaj (h.2 a)) i.toNatClampNeg x))))
  rw [show zak (h.2 a) = 3 by rw [he]; rfl, e1]
  show some ((vp_cell (gC G 3) (zal (h.2 a), .inr (.inl (zaj (h.2 a))))).setSlot i.toNatClampNeg (.long x)) = _
  rw [vp_cell_l, vp_cell_l, arrV_store]
  congr 2
  funext q
  by_cases hq : q = i.toNatClampNeg
  · subst hq
    simp [updV, vp_updL]
  · simp [updV, vp_updL, hq]
theorem aw_aastore {a b : Nat} {i : Int32} (hd : decode M.2.1 pc = .ok (.aastore, 1)) (hn : pc + 1 = pc') (h16 : 16 ≤ a) (he : zQA (h.2 a) 4) (hi : vp_in i (zal (h.2 a))) (hob : zOb (h.2 b) 3 3)
    (kk : AW l G M d mc ms Q k n (hset h a (zsetq (h.2 a) i.toNatClampNeg (some b))) lv st pc') : AW l G M d mc ms Q k n h lv (.ref b :: .int i :: .ref a :: st) pc := by
  intro p e s m args below meth c H locs ls Z hC hR hS hl hF
  have hx := hC.1
  have hb := hC.2.1
  subst hn
  have hSt := hC.2.2.2.2.2.2.2.2.1
  have hK := hSt.1
  have ha := hR.arr h16 he
  have hlt : i.toNatClampNeg < zal (h.2 a) := Nat.not_le.mp fun q => hi (Or.inr q)
  have h0 : ¬ i < 0 := fun q => hi (Or.inl q)
  obtain ⟨b16, hz⟩ := hR.obj hob.1 (q := (RX3, TX3, 3)) rfl
  have hB := hR.at b16 (by rw [hob.1]; exact hz)
  rw [hob.1] at hB
  obtain ⟨r', hr', cellV, g1, g2, g3, -⟩ := hB
  have hcls := (hK.1 3 (RX3, TX3, 3) rfl).2
  obtain ⟨kA, comp, k1, k2, k3, -⟩ := (hK.2 4 _ (gty (by decide))).2
  have hcomp : comp = (gD G).1 3 := Option.some.inj (k3.symm.trans hcls.1)
  subst hcomp
  obtain ⟨kC, hkC, -⟩ := hcls.2
  refine W.aast hx hb ha (fun q h => by cases h) (fun h => by cases h) k1 k2 rfl hkC ⟨h0, by show _ < (arrV _ _ _).slots.size; rw [arrV_size]; exact hlt⟩ g1 (fun q h => by rw [g3] at h; cases h) (by rw [g2]; exact hkC) (by rw [g2]; exact va_assign hcls) rfl rfl hd fun H1 e1 z oq => ?_
  refine kk p e s m args below meth c H1 _ ls Z hC (hR.set h16 (by rw [he]; exact zinl) ?_ z oq) (zS.put hS z oq h16) hl hF
  show H1[zad G a]? = some (vp_cell (gC G (zak (h.2 a))) (zal (h.2 a), .inr (.inr (.inr (.inr (fun j => (va_up (zaq (h.2 a)) i.toNatClampNeg (some b) j).map (zad G)))))))
  rw [show zak (h.2 a) = 4 by rw [he]; rfl, e1]
  show some ((vp_cell (gC G 4) (zal (h.2 a), .inr (.inr (.inr (.inr (fun j => (zaq (h.2 a) j).map (zad G))))))).setSlot i.toNatClampNeg (.ref (zad G b))) = _
  rw [vp_cell_q, vp_cell_q, arrV_store]
  congr 2
  funext q
  by_cases hq : q = i.toNatClampNeg
  · subst hq
    simp [updV, va_up, va_rf]
  · simp [updV, va_up, hq]
/-- new cells -/
theorem aw_new {ci N idx : Nat} {C : String} {T : u_T} {ty0 : Nat → FieldType} {fs : List Value} (hd : decode M.2.1 pc = .ok (.new idx, 3)) (hn : pc + 3 = pc') (hc : zcl[ci]? = some (C, T, N)) (hin : ∀ w ∈ u_ws C T N, w ∈ TB) (hty : ∀ k, k < N → parseFieldDescriptor (T k).2.2.1 = some (ty0 k)) (hcl : Cond.classLink M.1 idx C ∈ TB) (hinst : Cond.instantiable C N ∈ TB) (hini : Cond.initialized C ∈ TB) (hfs : ∀ j, j < N → defaultValue (ty0 j) = vp_V fs j) (hf0 : ∀ G : GT, fs.map (zV G) = fs) (hk : k + 1 ≤ mc) (hm : n + N ≤ ms)
    (kk : AW l G M d mc ms Q (k + 1) (n + N) (hnew h (.inr (ci, fs))) lv (.ref (h.1 + 16) :: st) pc') : AW l G M d mc ms Q k n h lv st pc := by
  intro p e s m args below meth c H locs ls Z hC hR hS hl hF
  have hx := hC.1
  have hb := hC.2.1
  subst hn
  have hSt := hC.2.2.2.2.2.2.2.2.1
  have hK := hSt.1
  have hts := hC.2.2.2.2.2.2.2.1
  have hKn := hK.1 ci _ hc
  refine W.newcK hx hb hC.2.2.2.2.2.2.1 (hts _ hcl) (hts _ hinst) (hts _ hini) rfl hd hk hm hKn.2.1 rfl fun H1 kC hkC e1 z1 o1 => ?_
  have K := kk p e s m args below meth c H1 locs ls Z hC (hR.new (e := .inr (ci, fs)) (by
    refine ⟨_, hc, ?_⟩
    have hb2 := u_born ty0 hts hin hKn hkC e1 hty
    rw [show (fs.map (zV G)) = fs from hf0 G]
    exact hb2.to hfs) z1 o1) (zS.new hS z1 o1) hl hF
  rw [List.map_cons, ← hR.nad] at K
  exact K
theorem aw_newa {kd : Nat} {at_ : ArrayType} {i : Int32} {N' : Nat} {x : vp_A} (hd : decode M.2.1 pc = .ok (.newarray at_, 2)) (hn : pc + 2 = pc') (hw : Cond.arrayClass (newarray.typeOf at_) ∈ TB) (h5 : kd < 4) (hty : newarray.typeOf at_ = ak kd) (ha : ∀ cA : ClassId, vp_cell cA x = arrV cA N' (fun _ => defaultValue (ak kd))) (hx0 : ∀ G : GT, zA G x = x) (hi : ¬ i < 0) (hN : i.toNatClampNeg = N') (hbytes : N' * componentBytes (ak kd) ≤ 536870912) (hk : k + 1 ≤ mc) (hm : n + N' ≤ ms)
    (kk : AW l G M d mc ms Q (k + 1) (n + N') (hnew h (.inl (kd, x))) lv (.ref (h.1 + 16) :: st) pc') : AW l G M d mc ms Q k n h lv (.int i :: st) pc := by
  intro p e s m args below meth c H locs ls Z hC hR hS hl hF
  have hx := hC.1
  have hb := hC.2.1
  subst hn
  have hSt := hC.2.2.2.2.2.2.2.2.1
  have hK := hSt.1
  have hts := hC.2.2.2.2.2.2.2.1
  have hcA := zra kd h5 (hK.2 kd _ (gty (by omega))).2
  refine va_newaK hx hb (hts _ hw) rfl hd rfl hi hN (by rw [hty]; exact hbytes) hk hm rfl fun H1 cA e1 z1 o1 hAr hNm => ?_
  rw [hty] at e1 hNm
  have hc2 : cA = gC G kd := Option.some.inj (hNm.symm.trans hcA)
  subst hc2
  have K := kk p e s m args below meth c H1 locs ls Z hC (hR.new (e := .inl (kd, x)) (by
    show H1[H.size]? = some (vp_cell (gC G kd) (zA G x))
    rw [hx0, ha]
    exact e1) z1 o1) (zS.new hS z1 o1) hl hF
  rw [List.map_cons, ← hR.nad] at K
  exact K
theorem aw_anew {idx : Nat} {i : Int32} {N' : Nat} (hd : decode M.2.1 pc = .ok (.anewarray idx, 3)) (hn : pc + 3 = pc') (hcl : Cond.classLink M.1 idx "AmberGrains$Tape" ∈ TB) (hi : ¬ i < 0) (hN : i.toNatClampNeg = N') (hbytes : N' * 4 ≤ 536870912) (hk : k + 1 ≤ mc) (hm : n + N' ≤ ms)
    (kk : AW l G M d mc ms Q (k + 1) (n + N') (hnew h (.inl (4, (N', .inr (.inr (.inr (.inr (fun _ => none)))))))) lv (.ref (h.1 + 16) :: st) pc') : AW l G M d mc ms Q k n h lv (.int i :: st) pc := by
  intro p e s m args below meth c H locs ls Z hC hR hS hl hF
  have hx := hC.1
  have hb := hC.2.1
  subst hn
  have hSt := hC.2.2.2.2.2.2.2.2.1
  have hK := hSt.1
  have hts := hC.2.2.2.2.2.2.2.1
  subst hN
  obtain ⟨kA0, comp0, k1, k2, k3, k4⟩ := (hK.2 4 _ (gty (by decide))).2
  refine W.anew hx hb hC.2.2.2.2.2.2.1 (hts _ hcl) (va_AO.use hSt.2.2.2.2.2.2.2.2.2.1) rfl hd rfl hi hbytes hk hm fun cA kA comp f1 f2 f3 f4 => ?_
  have hc2 : cA = gC G 4 := Option.some.inj (f1.symm.trans k4)
  subst hc2
  generalize hH1 : H.push ({ cls := gC G 4, slots := Array.replicate i.toNatClampNeg .null, vm := .none } : Cell) = H1
  have z1 : H1.size = H.size + 1 := by rw [← hH1, Array.size_push]
  have e1 : H1[H.size]? = some (arrV (gC G 4) i.toNatClampNeg (fun _ => .null)) := by rw [← hH1, Array.getElem?_push_size, ← arrV_new]
  have o1 : ∀ q : Nat, q < H.size → H1[q]? = H[q]? := fun q hq => by rw [← hH1, Array.getElem?_push, if_neg (Nat.ne_of_lt hq)]
  have K := kk p e s m args below meth c H1 locs ls Z hC (hR.new (e := .inl (4, (i.toNatClampNeg, .inr (.inr (.inr (.inr (fun _ => none))))))) (by
    show H1[H.size]? = some (vp_cell (gC G 4) _)
    exact e1) z1 o1) (zS.new hS z1 o1) hl hF
  rw [List.map_cons, ← hR.nad] at K
  exact K
end ZA
