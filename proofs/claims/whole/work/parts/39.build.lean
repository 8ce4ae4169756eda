/-! an object while it is made: it at u, L behind it -/
def Bl (h0 h : Hp) (u c : Nat) (fs : List Value) (L : List zE) : Prop := h0.1 + 15 = u ∧ h.1 = h0.1 + L.length ∧ h.2 u = .inr (c, fs) ∧ (∀ j, j < L.length → h.2 (u + 1 + j) = L.getD j zdead) ∧ ∀ a, a < u → h.2 a = h0.2 a
theorem Bl.start {h : Hp} {u c : Nat} {fs : List Value} (hu : h.1 + 15 = u) (he : h.2 u = .inr (c, fs)) : Bl h h u c fs [] :=
  ⟨hu, rfl, he, fun _ z => absurd z (Nat.not_lt_zero _), fun _ _ => rfl⟩
theorem Bl.new {h0 h : Hp} {u c : Nat} {fs : List Value} {L L' : List zE} {e : zE} (hB : Bl h0 h u c fs L) (hL : L ++ [e] = L') : Bl h0 (hnew h e) u c fs L' := by
  subst hL
  obtain ⟨h1, h2, h3, h4, h5⟩ := hB
  have hne : ∀ a, a ≠ h.1 + 16 → (hnew h e).2 a = h.2 a := fun a ha => if_neg ha
  refine ⟨h1, ?_, ?_, fun j hj => ?_, fun a ha => ?_⟩
  · show h.1 + 1 = _
    rw [List.length_append, List.length_singleton]
    omega
  · rw [hne u (by omega)]; exact h3
  · rw [List.length_append, List.length_singleton] at hj
    by_cases hjL : j < L.length
    · rw [hne _ (by omega), h4 j hjL]
      simp [List.getD, List.getElem?_append_left hjL]
    · have hj2 : j = L.length := by omega
      subst hj2
      rw [show u + 1 + L.length = h.1 + 16 by omega]
      show (if h.1 + 16 = h.1 + 16 then e else _) = _
      rw [if_pos rfl]
      simp [List.getD]
  · rw [hne a (by omega)]; exact h5 a ha
theorem Bl.put {h0 h : Hp} {u c k : Nat} {v : Value} {fs fs' : List Value} {L : List zE} (hB : Bl h0 h u c fs L) (hf : fs.set k v = fs') : Bl h0 (hset h u (zsetf (h.2 u) k v)) u c fs' L := by
  subst hf
  obtain ⟨h1, h2, h3, h4, h5⟩ := hB
  refine ⟨h1, h2, ?_, fun j hj => ?_, fun a ha => ?_⟩
  · rw [hset_eq, h3]; rfl
  · rw [hset_ne (by omega)]; exact h4 j hj
  · rw [hset_ne (by omega)]; exact h5 a ha
theorem Bl.cell {h0 h : Hp} {u c j : Nat} {e : zE} {fs : List Value} {L L' : List zE} (hB : Bl h0 h u c fs L) (hj : j < L.length) (hL : L.set j e = L') : Bl h0 (hset h (u + 1 + j) e) u c fs L' := by
  subst hL
  obtain ⟨h1, h2, h3, h4, h5⟩ := hB
  refine ⟨h1, by rw [List.length_set]; exact h2, ?_, fun i hi => ?_, fun a ha => ?_⟩
  · rw [hset_ne (by omega)]; exact h3
  · rw [List.length_set] at hi
    by_cases hij : i = j
    · subst hij
      rw [hset_eq]
      simp [List.getD, hi]
    · rw [hset_ne (by omega), h4 i hi]
      simp [List.getD, List.getElem?_set, Ne.symm hij]
  · rw [hset_ne (by omega)]; exact h5 a ha
section ZB
variable {l : Launch} {G : GT} {M : MT} {d mc ms k n pc pc' : Nat} {Q : Option Value → Hp → Prop} {h h0 : Hp} {lv : LV} {st : List Value} {u c : Nat} {fs : List Value} {L : List zE}
theorem aw_Bnew {kd : Nat} {at_ : ArrayType} {i : Int32} {N' : Nat} {x : vp_A} (L' : List zE) (hB : Bl h0 h u c fs L) (hd : decode M.2.1 pc = .ok (.newarray at_, 2)) (hn : pc + 2 = pc') (hw : Cond.arrayClass (newarray.typeOf at_) ∈ TB) (h5 : kd < 4) (hty : newarray.typeOf at_ = ak kd) (ha : ∀ cA : ClassId, vp_cell cA x = arrV cA N' (fun _ => defaultValue (ak kd))) (hx0 : ∀ G : GT, zA G x = x) (hi : ¬ i < 0) (hN : i.toNatClampNeg = N') (hbytes : N' * componentBytes (ak kd) ≤ 536870912) (hk : k + 1 ≤ mc) (hm : n + N' ≤ ms) (hL : L ++ [.inl (kd, x)] = L')
    (kk : ∀ h', Bl h0 h' u c fs L' → AW l G M d mc ms Q (k + 1) (n + N') h' lv (.ref (u + 1 + L.length) :: st) pc') : AW l G M d mc ms Q k n h lv (.int i :: st) pc := by
  refine aw_newa hd hn hw h5 hty ha hx0 hi hN hbytes hk hm ?_
  have z := kk _ (hB.new hL)
  rw [show u + 1 + L.length = h.1 + 16 by have := hB.1; have := hB.2.1; omega] at z
  exact z
theorem aw_Bput {ci kf N idx : Nat} {C : String} {T : u_T} {ty0 : Nat → FieldType} {v : Value} (fs' : List Value) (hB : Bl h0 h u ci fs L) (hd : decode M.2.1 pc = .ok (.putfield idx, 3)) (hn : pc + 3 = pc') (hlen : fs.length = N) (hc : zcl[ci]? = some (C, T, N)) (hin : ∀ w ∈ u_ws C T N, w ∈ TB) (hty : ∀ k, k < N → parseFieldDescriptor (T k).2.2.1 = some (ty0 k)) (hnm : ∀ a, a < N → ∀ b, b < N → a ≠ b → (T a).2.1 ≠ (T b).2.1) (hk : kf < N) (hw : Cond.fieldLink M.1 idx (T kf).1 (T kf).2.1 (T kf).2.2.1 ∈ TB) (hfin : (T kf).2.2.2 = false) (hv : zfit (ty0 kf) v) (hf : fs.set kf v = fs')
    (kk : ∀ h', Bl h0 h' u ci fs' L → AW l G M d mc ms Q k n h' lv st pc') : AW l G M d mc ms Q k n h lv (v :: .ref u :: st) pc :=
  aw_putf hd hn (by rw [hB.2.2.1]; exact ⟨rfl, hlen⟩) hc hin hty hnm hk hw hfin hv (kk _ (hB.put hf))
theorem aw_BputF {ci kf N idx : Nat} {C : String} {T : u_T} {ty0 : Nat → FieldType} {v : Value} (fs' : List Value) (hB : Bl h0 h u ci fs L) (hd : decode M.2.1 pc = .ok (.putfield idx, 3)) (hn : pc + 3 = pc') (hlen : fs.length = N) (hc : zcl[ci]? = some (C, T, N)) (hin : ∀ w ∈ u_ws C T N, w ∈ TB) (hty : ∀ k, k < N → parseFieldDescriptor (T k).2.2.1 = some (ty0 k)) (hnm : ∀ a, a < N → ∀ b, b < N → a ≠ b → (T a).2.1 ≠ (T b).2.1) (hk : kf < N) (hw : Cond.fieldLink M.1 idx (T kf).1 (T kf).2.1 (T kf).2.2.1 ∈ TB) (hfin : (T kf).2.2.2 = true) (hin2 : M.2.2.2.2 = true) (hdecl : (T kf).1 = M.1) (hv : zfit (ty0 kf) v) (hf : fs.set kf v = fs')
    (kk : ∀ h', Bl h0 h' u ci fs' L → AW l G M d mc ms Q k n h' lv st pc') : AW l G M d mc ms Q k n h lv (v :: .ref u :: st) pc :=
  aw_putF hd hn (by rw [hB.2.2.1]; exact ⟨rfl, hlen⟩) hc hin hty hnm hk hw hfin hin2 hdecl hv (kk _ (hB.put hf))
theorem aw_Biast {i x : Int32} {N : Nat} {f : Nat → Int32} (j : Nat) (L' : List zE) (hB : Bl h0 h u c fs L) (hd : decode M.2.1 pc = .ok (.iastore, 1)) (hn : pc + 1 = pc') (hj : j < L.length) (he : L.getD j zdead = .inl (0, (N, .inl f))) (hi : vp_in i N) (hL : L.set j (.inl (0, (N, .inl (upd f i.toNatClampNeg x)))) = L')
    (kk : ∀ h', Bl h0 h' u c fs L' → AW l G M d mc ms Q k n h' lv st pc') : AW l G M d mc ms Q k n h lv (.int x :: .int i :: .ref (u + 1 + j) :: st) pc := by
  have e := (hB.2.2.2.1 j hj).trans he
  have := hB.1
  refine aw_iastore hd hn (by omega) (by rw [e]; rfl) (by rw [e]; exact hi) ?_
  rw [e]
  exact kk _ (hB.cell hj hL)
theorem aw_Bcast {i x : Int32} {N : Nat} {f : Nat → Int32} (j : Nat) (L' : List zE) (hB : Bl h0 h u c fs L) (hd : decode M.2.1 pc = .ok (.castore, 1)) (hn : pc + 1 = pc') (hj : j < L.length) (he : L.getD j zdead = .inl (2, (N, .inl f))) (hi : vp_in i N) (hL : L.set j (.inl (2, (N, .inl (upd f i.toNatClampNeg (vp_nar .char x))))) = L')
    (kk : ∀ h', Bl h0 h' u c fs L' → AW l G M d mc ms Q k n h' lv st pc') : AW l G M d mc ms Q k n h lv (.int x :: .int i :: .ref (u + 1 + j) :: st) pc := by
  have e := (hB.2.2.2.1 j hj).trans he
  have := hB.1
  refine aw_castore hd hn (by omega) (by rw [e]; rfl) (by rw [e]; exact hi) ?_
  rw [e]
  exact kk _ (hB.cell hj hL)
end ZB
