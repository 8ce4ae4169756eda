/-! what a cell is, in total functions -/
def zoc (e : zE) : Nat := match e with
  | .inr (c, _) => c
  | _ => 1000
def zfs (e : zE) : List Value := match e with
  | .inr (_, fs) => fs
  | _ => []
def zak (e : zE) : Nat := match e with
  | .inl (k, _) => k
  | _ => 1000
def zal (e : zE) : Nat := match e with
  | .inl (_, (n, _)) => n
  | _ => 0
def zai (e : zE) : Nat → Int32 := match e with
  | .inl (_, (_, .inl f)) => f
  | _ => fun _ => 0
def zaj (e : zE) : Nat → Int64 := match e with
  | .inl (_, (_, .inr (.inl f))) => f
  | _ => fun _ => 0
def zaq (e : zE) : Nat → Option Nat := match e with
  | .inl (_, (_, .inr (.inr (.inr (.inr f))))) => f
  | _ => fun _ => none
/-- arrays of ints, bytes, chars; of longs; of references -/
def zIA (e : zE) (k : Nat) : Prop := e = .inl (k, (zal e, .inl (zai e)))
def zJA (e : zE) (k : Nat) : Prop := e = .inl (k, (zal e, .inr (.inl (zaj e))))
def zQA (e : zE) (k : Nat) : Prop := e = .inl (k, (zal e, .inr (.inr (.inr (.inr (zaq e))))))
def zOb (e : zE) (c N : Nat) : Prop := e = .inr (c, zfs e) ∧ (zfs e).length = N
def zfv (e : zE) (k : Nat) : Value := (zfs e).getD k .null
theorem zIA_i (k n : Nat) (f : Nat → Int32) : zIA (.inl (k, (n, .inl f))) k := rfl
theorem zJA_i (k n : Nat) (f : Nat → Int64) : zJA (.inl (k, (n, .inr (.inl f)))) k := rfl
theorem zQA_i (k n : Nat) (f : Nat → Option Nat) : zQA (.inl (k, (n, .inr (.inr (.inr (.inr f)))))) k := rfl
theorem zOb_i (c : Nat) (fs : List Value) : zOb (.inr (c, fs)) c fs.length := ⟨rfl, rfl⟩
section ZH
variable {l : Launch} {G : GT} {M : MT} {d mc ms k n pc pc' : Nat} {Q : Option Value → Hp → Prop} {h : Hp} {lv : LV} {st : List Value}
theorem zL_map {G : GT} {fs : List Value} {k : Nat} (hk : k < fs.length) : (fs.map (zV G))[k]? = some (zV G (fs.getD k .null)) := by
  rw [List.getElem?_map, List.getD_eq_getElem?_getD, List.getElem?_eq_getElem hk]
  rfl
theorem aw_getf {a ci kf N idx : Nat} {C : String} {T : u_T} (hd : decode M.2.1 pc = .ok (.getfield idx, 3)) (hn : pc + 3 = pc') (he : zOb (h.2 a) ci N) (hc : zcl[ci]? = some (C, T, N)) (hin : ∀ w ∈ u_ws C T N, w ∈ TB) (hk : kf < N) (hw : Cond.fieldLink M.1 idx (T kf).1 (T kf).2.1 (T kf).2.2.1 ∈ TB)
    (kk : AW l G M d mc ms Q k n h lv (zfv (h.2 a) kf :: st) pc') : AW l G M d mc ms Q k n h lv (.ref a :: st) pc := by
  intro p e s m args below meth c H locs ls Z hC hR hS hl hF
  have hx := hC.1
  have hb := hC.2.1
  subst hn
  obtain ⟨h16, hz⟩ := hR.obj he.1 hc
  have hP := hR.one h16 he.1 hz
  exact va_get (D := gD G) (ci := ci) (cl := zcl) hx hb hC.2.2.2.2.2.2.2.1 hin hC.2.2.2.2.2.2.1 hC.2.2.2.2.2.2.2.2.1.1 hP 0 (fs := (zfs (h.2 a)).map (zV G)) rfl hc kf hk (hC.2.2.2.2.2.2.2.1 _ hw) (fun _ h9 => h9) (zL_map (by rw [he.2]; exact hk)) hd (kk p e s m args below meth c H locs ls Z hC hR hS hl hF)
theorem aw_getN {a ci kf N idx : Nat} {C : String} {T : u_T} (hd : decode M.2.1 pc = .ok (.getfield idx, 3)) (hn : pc + 3 = pc') (he : zOb (h.2 a) ci N) (hc : zcl[ci]? = some (C, T, N)) (hin : ∀ w ∈ u_ws C T N, w ∈ TB) (hk : kf < N) (hM : M.1 = "AmberGrains") (hw : (idx, (T kf).1, (T kf).2.1, (T kf).2.2.1) ∈ znF)
    (kk : AW l G M d mc ms Q k n h lv (zfv (h.2 a) kf :: st) pc') : AW l G M d mc ms Q k n h lv (.ref a :: st) pc := by
  intro p e s m args below meth c H locs ls Z hC hR hS hl hF
  have hx := hC.1
  have hb := hC.2.1
  subst hn
  obtain ⟨h16, hz⟩ := hR.obj he.1 hc
  have hP := hR.one h16 he.1 hz
  have hw2 := hC.2.2.2.2.2.2.2.2.1.2.2.2.2.2.2.2.1 _ hw
  rw [← hM] at hw2
  exact va_getN (D := gD G) (ci := ci) (cl := zcl) hx hb hC.2.2.2.2.2.2.2.1 hin hC.2.2.2.2.2.2.1 hC.2.2.2.2.2.2.2.2.1.1 hP 0 (fs := (zfs (h.2 a)).map (zV G)) rfl hc kf hk (va_Nw.use rfl hw2) (fun _ h9 => h9) (zL_map (by rw [he.2]; exact hk)) hd (kk p e s m args below meth c H locs ls Z hC hR hS hl hF)
/-- what a field takes -/
def zfit (ty : FieldType) (v : Value) : Prop := match ty, v with
  | .int, .int _ => True
  | .boolean, .int x => x = 0 ∨ x = 1
  | .long, .long _ => True
  | .object _, .ref _ => True
  | .object _, .null => True
  | .array _, .ref _ => True
  | .array _, .null => True
  | _, _ => False
theorem zfit_n {ty : FieldType} {v : Value} (G : GT) (h : zfit ty v) : narrow ty (zV G v) = zV G v ∧ fits ty (zV G v) = true := by
  unfold zfit at h
  split at h
  · exact ⟨rfl, rfl⟩
  · rcases h with rfl | rfl <;> exact ⟨rfl, rfl⟩
  · exact ⟨rfl, rfl⟩
  · exact ⟨rfl, rfl⟩
  · exact ⟨rfl, rfl⟩
  · exact ⟨rfl, rfl⟩
  · exact ⟨rfl, rfl⟩
  · exact h.elim
def zsetf (e : zE) (k : Nat) (v : Value) : zE := .inr (zoc e, (zfs e).set k v)
theorem zputH {H H' : Heap} {a ci kf N : Nat} {C : String} {T : u_T} {v : Value} {cell : Cell} (hR : HR G h H) (he : zOb (h.2 a) ci N) (hc : zcl[ci]? = some (C, T, N)) (hk : kf < N) (hap : ∀ x y, x < N → y < N → x ≠ y → ((gD G).2 ci) x ≠ ((gD G).2 ci) y)
    (q2 : cell.cls = (gD G).1 ci) (q3 : cell.vm = .none) (q4 : ∀ k, k < N → cell.slots[(gD G).2 ci k]? = some (vp_V ((zfs (h.2 a)).map (zV G)) k)) (e1 : H'[zad G a]? = some (cell.setSlot ((gD G).2 ci kf) (zV G v))) (e2 : H'.size = H.size) (e3 : ∀ q, q ≠ zad G a → H'[q]? = H[q]?) : HR G (hset h a (zsetf (h.2 a) kf v)) H' := by
  obtain ⟨h16, hz⟩ := hR.obj he.1 hc
  refine hR.set h16 (by rw [he.1]; exact hz) ?_ e2 e3
  have hl : kf < ((zfs (h.2 a)).map (zV G)).length := by rw [List.length_map, he.2]; exact hk
  have hce : zoc (h.2 a) = ci := by rw [he.1]; rfl
  show ∃ r : vw_C, zcl[zoc (h.2 a)]? = some r ∧ t_OB (zad G a) ((gD G).1 (zoc (h.2 a))) r.2.2 ((gD G).2 (zoc (h.2 a))) H' (vp_V (((zfs (h.2 a)).set kf v).map (zV G)))
  rw [hce]
  refine ⟨_, hc, ?_⟩
  rw [show ((zfs (h.2 a)).set kf v).map (zV G) = ((zfs (h.2 a)).map (zV G)).set kf (zV G v) from List.map_set]
  exact t_OB.to (V := updV (vp_V ((zfs (h.2 a)).map (zV G))) kf (zV G v)) ⟨_, e1, q2, q3, t_set q4 hap hk (zV G v)⟩ (fun j _ => vp_updV_set hl (zV G v) j)
theorem aw_putf {a ci kf N idx : Nat} {C : String} {T : u_T} {ty0 : Nat → FieldType} {v : Value} (hd : decode M.2.1 pc = .ok (.putfield idx, 3)) (hn : pc + 3 = pc') (he : zOb (h.2 a) ci N) (hc : zcl[ci]? = some (C, T, N)) (hin : ∀ w ∈ u_ws C T N, w ∈ TB) (hty : ∀ k, k < N → parseFieldDescriptor (T k).2.2.1 = some (ty0 k)) (hnm : ∀ a, a < N → ∀ b, b < N → a ≠ b → (T a).2.1 ≠ (T b).2.1) (hk : kf < N) (hw : Cond.fieldLink M.1 idx (T kf).1 (T kf).2.1 (T kf).2.2.1 ∈ TB) (hfin : (T kf).2.2.2 = false) (hv : zfit (ty0 kf) v)
    (kk : AW l G M d mc ms Q k n (hset h a (zsetf (h.2 a) kf v)) lv st pc') : AW l G M d mc ms Q k n h lv (v :: .ref a :: st) pc := by
  intro p e s m args below meth c H locs ls Z hC hR hS hl hF
  have hx := hC.1
  have hb := hC.2.1
  subst hn
  obtain ⟨h16, hz⟩ := hR.obj he.1 hc
  have hts := hC.2.2.2.2.2.2.2.1
  have hown := hC.2.2.2.2.2.2.1
  have hK := hC.2.2.2.2.2.2.2.2.1.1
  have hap := va_apart (own := M.1) hts hin ty0 hty hnm hK hc
  have hA := hR.at h16 (by rw [he.1]; exact hz)
  rw [he.1] at hA
  obtain ⟨r, h1, cell, q1, q2, q3, q4⟩ := hA
  have hr : r = (C, T, N) := Option.some.inj (h1.symm.trans hc)
  subst hr
  obtain ⟨hSl, hfc, kC, hkC, hkind⟩ := hK.1 ci _ hc
  obtain ⟨cf, kf0, fi, f, hi, hsl⟩ := hSl kf hk
  have hlay := hts _ (hin _ (u_in_lay hk))
  unfold u_lay at hlay
  rw [if_neg (by rw [hfin]; decide)] at hlay
  have hst := (u_facts hfc hkC (u_lays hts hin hk) hi).1
  have h6 := u_store hfc hkC hkind hlay hi (hty kf hk) (zfit_n G hv).1 (zfit_n G hv).2
  refine W.putK hx hb (f := f) ⟨hown, hts _ hw, ⟨_, _, _, hi⟩, hst⟩ (by rw [q2]; exact h6) q1 q3 (by rw [hsl]; exact k2_hasslot (q4 kf hk)) rfl rfl hd fun H' e1 e2 e3 => ?_
  rw [hsl] at e1 ⊢
  exact kk p e s m args below meth c H' _ ls Z hC (zputH hR he hc hk hap q2 q3 q4 e1 e2 e3) (zS.put hS e2 e3 h16) hl hF
theorem aw_putF {a ci kf N idx : Nat} {C : String} {T : u_T} {ty0 : Nat → FieldType} {v : Value} (hd : decode M.2.1 pc = .ok (.putfield idx, 3)) (hn : pc + 3 = pc') (he : zOb (h.2 a) ci N) (hc : zcl[ci]? = some (C, T, N)) (hin : ∀ w ∈ u_ws C T N, w ∈ TB) (hty : ∀ k, k < N → parseFieldDescriptor (T k).2.2.1 = some (ty0 k)) (hnm : ∀ a, a < N → ∀ b, b < N → a ≠ b → (T a).2.1 ≠ (T b).2.1) (hk : kf < N) (hw : Cond.fieldLink M.1 idx (T kf).1 (T kf).2.1 (T kf).2.2.1 ∈ TB) (hfin : (T kf).2.2.2 = true) (hin2 : M.2.2.2.2 = true) (hdecl : (T kf).1 = M.1) (hv : zfit (ty0 kf) v)
    (kk : AW l G M d mc ms Q k n (hset h a (zsetf (h.2 a) kf v)) lv st pc') : AW l G M d mc ms Q k n h lv (v :: .ref a :: st) pc := by
  intro p e s m args below meth c H locs ls Z hC hR hS hl hF
  have hx := hC.1
  have hb := hC.2.1
  subst hn
  obtain ⟨h16, hz⟩ := hR.obj he.1 hc
  have hts := hC.2.2.2.2.2.2.2.1
  have hown := hC.2.2.2.2.2.2.1
  have hK := hC.2.2.2.2.2.2.2.2.1.1
  have hap := va_apart (own := M.1) hts hin ty0 hty hnm hK hc
  have hA := hR.at h16 (by rw [he.1]; exact hz)
  rw [he.1] at hA
  obtain ⟨r, h1, cell, q1, q2, q3, q4⟩ := hA
  have hr : r = (C, T, N) := Option.some.inj (h1.symm.trans hc)
  subst hr
  obtain ⟨hSl, hfc, kC, hkC, hkind⟩ := hK.1 ci _ hc
  obtain ⟨cf, kf0, fi, f, hi, hsl⟩ := hSl kf hk
  have hlay := hts _ (hin _ (u_in_lay hk))
  unfold u_lay at hlay
  rw [if_pos hfin] at hlay
  have hst := (u_facts hfc hkC (u_lays hts hin hk) hi).1
  have hcf : m.cls = cf := by
    obtain ⟨_, _, c', _, _, _, -, -, hf', -, -, -, hown2, -⟩ := Cond.laysFinal_spec hlay
    have e1 : c' = cf := by have := hi.symm.trans hf'; simp at this; exact this.1.symm
    rw [hdecl] at hown2
    rw [← e1]; exact Option.some.inj (hown.symm.trans hown2)
  have h6 := u_fits hfc hkC hkind (Or.inr hlay) hi (hty kf hk) (zfit_n G hv).1 (zfit_n G hv).2
  refine W.putFinK hx hb hown (hts _ hw) hi hst hcf (hC.2.2.2.2.2.1 hin2) (by rw [q2]; exact h6) q1 q3 (by rw [hsl]; exact k2_hasslot (q4 kf hk)) rfl rfl hd fun H' e1 e2 e3 => ?_
  rw [hsl] at e1 ⊢
  exact kk p e s m args below meth c H' _ ls Z hC (zputH hR he hc hk hap q2 q3 q4 e1 e2 e3) (zS.put hS e2 e3 h16) hl hF
theorem aw_putN {a ci kf N idx : Nat} {C : String} {T : u_T} {ty0 : Nat → FieldType} {v : Value} (hd : decode M.2.1 pc = .ok (.putfield idx, 3)) (hn : pc + 3 = pc') (he : zOb (h.2 a) ci N) (hc : zcl[ci]? = some (C, T, N)) (hin : ∀ w ∈ u_ws C T N, w ∈ TB) (hty : ∀ k, k < N → parseFieldDescriptor (T k).2.2.1 = some (ty0 k)) (hnm : ∀ a, a < N → ∀ b, b < N → a ≠ b → (T a).2.1 ≠ (T b).2.1) (hk : kf < N) (hM : M.1 = "AmberGrains") (hw : (idx, (T kf).1, (T kf).2.1, (T kf).2.2.1) ∈ znF) (hfin : (T kf).2.2.2 = false) (hv : zfit (ty0 kf) v)
    (kk : AW l G M d mc ms Q k n (hset h a (zsetf (h.2 a) kf v)) lv st pc') : AW l G M d mc ms Q k n h lv (v :: .ref a :: st) pc := by
  intro p e s m args below meth c H locs ls Z hC hR hS hl hF
  have hx := hC.1
  have hb := hC.2.1
  subst hn
  obtain ⟨h16, hz⟩ := hR.obj he.1 hc
  have hts := hC.2.2.2.2.2.2.2.1
  have hown := hC.2.2.2.2.2.2.1
  have hK := hC.2.2.2.2.2.2.2.2.1.1
  have hw2 := hC.2.2.2.2.2.2.2.2.1.2.2.2.2.2.2.2.1 _ hw
  rw [← hM] at hw2
  have hap := va_apart (own := M.1) hts hin ty0 hty hnm hK hc
  have hA := hR.at h16 (by rw [he.1]; exact hz)
  rw [he.1] at hA
  obtain ⟨r, h1, cell, q1, q2, q3, q4⟩ := hA
  have hr : r = (C, T, N) := Option.some.inj (h1.symm.trans hc)
  subst hr
  obtain ⟨hSl, hfc, kC, hkC, hkind⟩ := hK.1 ci _ hc
  obtain ⟨cf, kf0, fi, f, hi, hsl⟩ := hSl kf hk
  have hlay := hts _ (hin _ (u_in_lay hk))
  unfold u_lay at hlay
  rw [if_neg (by rw [hfin]; decide)] at hlay
  have hst := (u_facts hfc hkC (u_lays hts hin hk) hi).1
  have h6 := u_store hfc hkC hkind hlay hi (hty kf hk) (zfit_n G hv).1 (zfit_n G hv).2
  refine va_WputK hx hb (f := f) hown (va_Nw.use rfl hw2) hi hst (by rw [q2]; exact h6) q1 q3 (by rw [hsl]; exact k2_hasslot (q4 kf hk)) rfl rfl hd fun H' e1 e2 e3 => ?_
  rw [hsl] at e1 ⊢
  exact kk p e s m args below meth c H' _ ls Z hC (zputH hR he hc hk hap q2 q3 q4 e1 e2 e3) (zS.put hS e2 e3 h16) hl hF
theorem zlow_i {G : GT} {h : Hp} {H : Heap} (hR : HR G h H) {a k : Nat} (ha : a < 16) (he : zIA (h.2 a) k) {s : State} (hS : St G s s.heap) : va_T (ak k) (zad G a) (zal (h.2 a)) (fun j => .int (zai (h.2 a) j)) (zW G) s s.heap := by
  have h1 := hR.2.2.2 a ha
  rw [show zad G a = glo G a from if_pos ha]
  exact hS.2.1 a k _ _ ha (h1.symm.trans he)
theorem aw_gets {n1 d1 : String} {idx a : Nat} (hd : decode M.2.1 pc = .ok (.getstatic idx, 3)) (hn : pc + 3 = pc') (hs : (n1, d1, a) ∈ [("ABOVE", "[I", 1), ("BODIES", "[I", 2)]) (hw : Cond.fieldLink M.1 idx "AmberGrains$Voice" n1 d1 ∈ TB)
    (kk : AW l G M d mc ms Q k n h lv (.ref a :: st) pc') : AW l G M d mc ms Q k n h lv st pc := by
  intro p e s m args below meth c H locs ls Z hC hR hS hl hF
  have hx := hC.1
  have hb := hC.2.1
  subst hn
  have hSt := hC.2.2.2.2.2.2.2.2.1
  have K := kk p e s m args below meth c H locs ls Z hC hR hS hl hF
  rcases List.mem_cons.mp hs with e1 | hs
  · cases e1
    exact va_gets hx hb hSt.2.2.1 hS hC.2.2.2.2.2.2.1 (hC.2.2.2.2.2.2.2.1 _ hw) (fun _ h9 => h9) hd K
  · rcases List.mem_cons.mp hs with e1 | hs
    · cases e1
      exact va_gets hx hb hSt.2.2.2.1 hS hC.2.2.2.2.2.2.1 (hC.2.2.2.2.2.2.2.1 _ hw) (fun _ h9 => h9) hd K
    · cases hs
end ZH
