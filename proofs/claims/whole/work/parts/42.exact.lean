/-! cells that are known exactly -/
def OA (h : Hp) (a : Nat) (e : zE) : Prop := h.2 a = e ∧ 16 ≤ a
theorem OA.fr {h h' : Hp} {a w n : Nat} {e : zE} (hO : OA h a e) (hs : Same w n h h') (hd : a + 1 ≤ w ∨ w + n ≤ a) : OA h' a e := ⟨(hs.2 a (by omega)).trans hO.1, hO.2⟩
theorem OA.hs {h : Hp} {a : Nat} {e e' : zE} (hO : OA h a e) : OA (hset h a e') a e' := ⟨hset_eq h a e', hO.2⟩
theorem same_h1 {h : Hp} {a : Nat} {e : zE} : Same a 1 h (hset h a e) := Same.hset (Nat.le_refl _) (Nat.lt_succ_self _)
theorem Same.w {w n w2 n2 : Nat} {h h' : Hp} (hs : Same w n h h') (h1 : w2 ≤ w) (h2 : w + n ≤ w2 + n2) : Same w2 n2 h h' := ⟨hs.1, fun a ha => hs.2 a (by omega)⟩
section ZX
variable {l : Launch} {G : GT} {M : MT} {d mc ms k n pc pc' : Nat} {Q : Option Value → Hp → Prop} {h : Hp} {lv : LV} {st : List Value} {a : Nat}
theorem aw_Oget {ci kf N idx : Nat} {C : String} {T : u_T} {fs : List Value} (v : Value) (hO : OA h a (.inr (ci, fs))) (hd : decode M.2.1 pc = .ok (.getfield idx, 3)) (hn : pc + 3 = pc') (hlen : fs.length = N) (hc : zcl[ci]? = some (C, T, N)) (hin : ∀ w ∈ u_ws C T N, w ∈ TB) (hk : kf < N) (hw : Cond.fieldLink M.1 idx (T kf).1 (T kf).2.1 (T kf).2.2.1 ∈ TB) (hv : fs.getD kf .null = v)
    (kk : AW l G M d mc ms Q k n h lv (v :: st) pc') : AW l G M d mc ms Q k n h lv (.ref a :: st) pc := by
  refine aw_getf hd hn (by rw [hO.1]; exact ⟨rfl, hlen⟩) hc hin hk hw ?_
  rw [hO.1]
  subst hv
  exact kk
theorem aw_OgetN {ci kf N idx : Nat} {C : String} {T : u_T} {fs : List Value} (v : Value) (hO : OA h a (.inr (ci, fs))) (hd : decode M.2.1 pc = .ok (.getfield idx, 3)) (hn : pc + 3 = pc') (hlen : fs.length = N) (hc : zcl[ci]? = some (C, T, N)) (hin : ∀ w ∈ u_ws C T N, w ∈ TB) (hk : kf < N) (hM : M.1 = "AmberGrains") (hw : (idx, (T kf).1, (T kf).2.1, (T kf).2.2.1) ∈ znF) (hv : fs.getD kf .null = v)
    (kk : AW l G M d mc ms Q k n h lv (v :: st) pc') : AW l G M d mc ms Q k n h lv (.ref a :: st) pc := by
  refine aw_getN hd hn (by rw [hO.1]; exact ⟨rfl, hlen⟩) hc hin hk hM hw ?_
  rw [hO.1]
  subst hv
  exact kk
theorem aw_Oput {ci kf N idx : Nat} {C : String} {T : u_T} {ty0 : Nat → FieldType} {v : Value} {fs : List Value} (fs' : List Value) (hO : OA h a (.inr (ci, fs))) (hd : decode M.2.1 pc = .ok (.putfield idx, 3)) (hn : pc + 3 = pc') (hlen : fs.length = N) (hc : zcl[ci]? = some (C, T, N)) (hin : ∀ w ∈ u_ws C T N, w ∈ TB) (hty : ∀ k, k < N → parseFieldDescriptor (T k).2.2.1 = some (ty0 k)) (hnm : ∀ a, a < N → ∀ b, b < N → a ≠ b → (T a).2.1 ≠ (T b).2.1) (hk : kf < N) (hw : Cond.fieldLink M.1 idx (T kf).1 (T kf).2.1 (T kf).2.2.1 ∈ TB) (hfin : (T kf).2.2.2 = false) (hv : zfit (ty0 kf) v) (hf : fs.set kf v = fs')
    (kk : ∀ h', OA h' a (.inr (ci, fs')) → Same a 1 h h' → AW l G M d mc ms Q k n h' lv st pc') : AW l G M d mc ms Q k n h lv (v :: .ref a :: st) pc := by
  refine aw_putf hd hn (by rw [hO.1]; exact ⟨rfl, hlen⟩) hc hin hty hnm hk hw hfin hv ?_
  rw [hO.1]
  subst hf
  exact kk _ hO.hs same_h1
theorem aw_OputN {ci kf N idx : Nat} {C : String} {T : u_T} {ty0 : Nat → FieldType} {v : Value} {fs : List Value} (fs' : List Value) (hO : OA h a (.inr (ci, fs))) (hd : decode M.2.1 pc = .ok (.putfield idx, 3)) (hn : pc + 3 = pc') (hlen : fs.length = N) (hc : zcl[ci]? = some (C, T, N)) (hin : ∀ w ∈ u_ws C T N, w ∈ TB) (hty : ∀ k, k < N → parseFieldDescriptor (T k).2.2.1 = some (ty0 k)) (hnm : ∀ a, a < N → ∀ b, b < N → a ≠ b → (T a).2.1 ≠ (T b).2.1) (hk : kf < N) (hM : M.1 = "AmberGrains") (hw : (idx, (T kf).1, (T kf).2.1, (T kf).2.2.1) ∈ znF) (hfin : (T kf).2.2.2 = false) (hv : zfit (ty0 kf) v) (hf : fs.set kf v = fs')
    (kk : ∀ h', OA h' a (.inr (ci, fs')) → Same a 1 h h' → AW l G M d mc ms Q k n h' lv st pc') : AW l G M d mc ms Q k n h lv (v :: .ref a :: st) pc := by
  refine aw_putN hd hn (by rw [hO.1]; exact ⟨rfl, hlen⟩) hc hin hty hnm hk hM hw hfin hv ?_
  rw [hO.1]
  subst hf
  exact kk _ hO.hs same_h1
theorem aw_Ail {N : Nat} {i : Int32} {f : Nat → Int32} (c : Nat) (hO : OA h a (.inl (0, (N, .inl f)))) (hd : decode M.2.1 pc = .ok (.iaload, 1)) (hn : pc + 1 = pc') (hi : vp_in i N) (hc : i.toNatClampNeg = c)
    (kk : AW l G M d mc ms Q k n h lv (.int (f c) :: st) pc') : AW l G M d mc ms Q k n h lv (.int i :: .ref a :: st) pc := by
  refine aw_iaload hd hn (by rw [hO.1]; rfl) (by rw [hO.1]; exact hi) ?_
  rw [hO.1, hc]
  exact kk
theorem aw_Abl {N : Nat} {i : Int32} {f : Nat → Int32} (c : Nat) (hO : OA h a (.inl (1, (N, .inl f)))) (hd : decode M.2.1 pc = .ok (.baload, 1)) (hn : pc + 1 = pc') (hi : vp_in i N) (hc : i.toNatClampNeg = c)
    (kk : AW l G M d mc ms Q k n h lv (.int (f c) :: st) pc') : AW l G M d mc ms Q k n h lv (.int i :: .ref a :: st) pc := by
  refine aw_baload hd hn (by rw [hO.1]; rfl) (by rw [hO.1]; exact hi) ?_
  rw [hO.1, hc]
  exact kk
theorem aw_Ajl {N : Nat} {i : Int32} {f : Nat → Int64} (c : Nat) (hO : OA h a (.inl (3, (N, .inr (.inl f))))) (hd : decode M.2.1 pc = .ok (.laload, 1)) (hn : pc + 1 = pc') (hi : vp_in i N) (hc : i.toNatClampNeg = c)
    (kk : AW l G M d mc ms Q k n h lv (.long (f c) :: st) pc') : AW l G M d mc ms Q k n h lv (.int i :: .ref a :: st) pc := by
  refine aw_laload hd hn hO.2 (by rw [hO.1]; rfl) (by rw [hO.1]; exact hi) ?_
  rw [hO.1, hc]
  exact kk
theorem aw_Aal {N r : Nat} {i : Int32} {f : Nat → Option Nat} (c : Nat) (hO : OA h a (.inl (4, (N, .inr (.inr (.inr (.inr f))))))) (hd : decode M.2.1 pc = .ok (.aaload, 1)) (hn : pc + 1 = pc') (hi : vp_in i N) (hc : i.toNatClampNeg = c) (hr : f c = some r)
    (kk : AW l G M d mc ms Q k n h lv (.ref r :: st) pc') : AW l G M d mc ms Q k n h lv (.int i :: .ref a :: st) pc :=
  aw_aaload hd hn hO.2 (by rw [hO.1]; rfl) (by rw [hO.1]; exact hi) (by rw [hO.1, hc]; exact hr) kk
theorem aw_Ais {N : Nat} {i x : Int32} {f : Nat → Int32} (c : Nat) (hO : OA h a (.inl (0, (N, .inl f)))) (hd : decode M.2.1 pc = .ok (.iastore, 1)) (hn : pc + 1 = pc') (hi : vp_in i N) (hc : i.toNatClampNeg = c)
    (kk : ∀ h', OA h' a (.inl (0, (N, .inl (upd f c x)))) → Same a 1 h h' → AW l G M d mc ms Q k n h' lv st pc') : AW l G M d mc ms Q k n h lv (.int x :: .int i :: .ref a :: st) pc := by
  refine aw_iastore hd hn hO.2 (by rw [hO.1]; rfl) (by rw [hO.1]; exact hi) ?_
  rw [hO.1, hc]
  exact kk _ hO.hs same_h1
theorem aw_Abs {N : Nat} {i x : Int32} {f : Nat → Int32} (c : Nat) (hO : OA h a (.inl (1, (N, .inl f)))) (hd : decode M.2.1 pc = .ok (.bastore, 1)) (hn : pc + 1 = pc') (hi : vp_in i N) (hc : i.toNatClampNeg = c)
    (kk : ∀ h', OA h' a (.inl (1, (N, .inl (upd f c (vp_nar .byte x))))) → Same a 1 h h' → AW l G M d mc ms Q k n h' lv st pc') : AW l G M d mc ms Q k n h lv (.int x :: .int i :: .ref a :: st) pc := by
  refine aw_bastore hd hn hO.2 (by rw [hO.1]; rfl) (by rw [hO.1]; exact hi) ?_
  rw [hO.1, hc]
  exact kk _ hO.hs same_h1
theorem aw_Ajs {N : Nat} {i : Int32} {x : Int64} {f : Nat → Int64} (c : Nat) (hO : OA h a (.inl (3, (N, .inr (.inl f))))) (hd : decode M.2.1 pc = .ok (.lastore, 1)) (hn : pc + 1 = pc') (hi : vp_in i N) (hc : i.toNatClampNeg = c)
    (kk : ∀ h', OA h' a (.inl (3, (N, .inr (.inl (vp_updL f c x))))) → Same a 1 h h' → AW l G M d mc ms Q k n h' lv st pc') : AW l G M d mc ms Q k n h lv (.long x :: .int i :: .ref a :: st) pc := by
  refine aw_lastore hd hn hO.2 (by rw [hO.1]; rfl) (by rw [hO.1]; exact hi) ?_
  rw [hO.1, hc]
  exact kk _ hO.hs same_h1
theorem aw_Alen {N kd : Nat} {x : (Nat → Int32) ⊕ (Nat → Int64) ⊕ _} (hO : OA h a (.inl (kd, (N, x)))) (hd : decode M.2.1 pc = .ok (.arraylength, 1)) (hn : pc + 1 = pc') (h5 : kd < 5)
    (kk : AW l G M d mc ms Q k n h lv (.int (nI N) :: st) pc') : AW l G M d mc ms Q k n h lv (.ref a :: st) pc := by
  refine aw_alen hd hn h5 hO.2 (by rw [hO.1]; rfl) ?_
  rw [hO.1]
  exact kk
theorem aw_Acpi {idx b N0 N1 s0 s1 c : Nat} {sp dp nn : Int32} {f0 f1 : Nat → Int32} (hA : OA h a (.inl (0, (N0, .inl f0)))) (hB : OA h b (.inl (0, (N1, .inl f1)))) (hd : decode M.2.1 pc = .ok (.invokestatic idx, 3)) (hn : pc + 3 = pc') (hw : Cond.methodLink M.1 idx arraycopyName ∈ TB) (hw2 : Cond.native arraycopyName ∈ TB) (hw3 : Cond.static arraycopyName ∈ TB) (hw4 : Cond.initialized "java/lang/System" ∈ TB)
    (e1 : sp = nI s0) (e2 : dp = nI s1) (e3 : nn = nI c) (h0 : s0 + c ≤ N0 ∧ s1 + c ≤ N1 ∧ N0 < 2 ^ 31 ∧ N1 < 2 ^ 31) (hd1 : 1 ≤ d) (hsm : (st.map fun v => v.category).sum ≤ 8)
    (kk : ∀ h', OA h' b (.inl (0, (N1, .inl (va_cpy f0 f1 s0 s1 c)))) → Same b 1 h h' → AW l G M d mc ms Q k n h' lv st pc') : AW l G M d mc ms Q k n h lv (.int nn :: .int dp :: .ref b :: .int sp :: .ref a :: st) pc := by
  subst e1 e2 e3
  have z : ∀ x : Nat, x < 2 ^ 31 → ¬ nI x < 0 := fun x hx y => by
    have := Int32.lt_iff_toInt_lt.mp y
    rw [nI_toInt hx, show (0 : Int32).toInt = 0 from by decide] at this
    omega
  have k0 := kk _ (hB.hs (e' := .inl (0, (N1, .inl (va_cpy f0 f1 s0 s1 c))))) same_h1
  refine aw_copyi hd hn hw hw2 hw3 hw4 hA.2 hB.2 (by rw [hA.1]; rfl) (by rw [hB.1]; rfl) (z _ (by omega)) (z _ (by omega)) (z _ (by omega)) (by rw [hA.1, nI_clamp (by omega), nI_clamp (by omega)]; exact h0.1) (by rw [hB.1, nI_clamp (by omega), nI_clamp (by omega)]; exact h0.2.1) hd1 hsm ?_
  rw [hA.1, hB.1, nI_clamp (n := s0) (by omega), nI_clamp (n := s1) (by omega), nI_clamp (n := c) (by omega)]
  exact k0
theorem aw_Acpj {idx b N0 N1 s0 s1 c : Nat} {sp dp nn : Int32} {f0 f1 : Nat → Int64} (hA : OA h a (.inl (3, (N0, .inr (.inl f0))))) (hB : OA h b (.inl (3, (N1, .inr (.inl f1))))) (hd : decode M.2.1 pc = .ok (.invokestatic idx, 3)) (hn : pc + 3 = pc') (hw : Cond.methodLink M.1 idx arraycopyName ∈ TB) (hw2 : Cond.native arraycopyName ∈ TB) (hw3 : Cond.static arraycopyName ∈ TB) (hw4 : Cond.initialized "java/lang/System" ∈ TB)
    (e1 : sp = nI s0) (e2 : dp = nI s1) (e3 : nn = nI c) (h0 : s0 + c ≤ N0 ∧ s1 + c ≤ N1 ∧ N0 < 2 ^ 31 ∧ N1 < 2 ^ 31) (hd1 : 1 ≤ d) (hsm : (st.map fun v => v.category).sum ≤ 8)
    (kk : ∀ h', OA h' b (.inl (3, (N1, .inr (.inl (va_cpy f0 f1 s0 s1 c))))) → Same b 1 h h' → AW l G M d mc ms Q k n h' lv st pc') : AW l G M d mc ms Q k n h lv (.int nn :: .int dp :: .ref b :: .int sp :: .ref a :: st) pc := by
  subst e1 e2 e3
  have z : ∀ x : Nat, x < 2 ^ 31 → ¬ nI x < 0 := fun x hx y => by
    have := Int32.lt_iff_toInt_lt.mp y
    rw [nI_toInt hx, show (0 : Int32).toInt = 0 from by decide] at this
    omega
  have k0 := kk _ (hB.hs (e' := .inl (3, (N1, .inr (.inl (va_cpy f0 f1 s0 s1 c)))))) same_h1
  refine aw_copyj hd hn hw hw2 hw3 hw4 hA.2 hB.2 (by rw [hA.1]; rfl) (by rw [hB.1]; rfl) (z _ (by omega)) (z _ (by omega)) (z _ (by omega)) (by rw [hA.1, nI_clamp (by omega), nI_clamp (by omega)]; exact h0.1) (by rw [hB.1, nI_clamp (by omega), nI_clamp (by omega)]; exact h0.2.1) hd1 hsm ?_
  rw [hA.1, hB.1, nI_clamp (n := s0) (by omega), nI_clamp (n := s1) (by omega), nI_clamp (n := c) (by omega)]
  exact k0
end ZX
/-- a sea: nothing, or steps and a room -/
abbrev SD : Type := Option (Nat × (Nat → Int32) × Int32)
def SAt (h : Hp) (v : Value) (sd : SD) : Prop := match sd with
  | none => v = .null
  | some (n, f, r) => ∃ s a, v = .ref s ∧ OA h s (.inr (2, [.ref a, .int r])) ∧ OA h a (.inl (0, (n, .inl f))) ∧ n ≤ 100 ∧ 96 ≤ s ∧ 96 ≤ a
theorem SAt.fr {h h' : Hp} {v : Value} {sd : SD} {w n : Nat} (hS : SAt h v sd) (hs : Same w n h h') (hd : w + n ≤ 96) : SAt h' v sd := by
  match sd, hS with
  | none, h => exact h
  | some (N, f, r), ⟨s, a, e1, e2, e3, e4, e5, e6⟩ => exact ⟨s, a, e1, e2.fr hs (Or.inr (Nat.le_trans hd e5)), e3.fr hs (Or.inr (Nat.le_trans hd e6)), e4, e5, e6⟩
theorem SAt.zr {h : Hp} {v : Value} {sd : SD} (hS : SAt h v sd) : zisr v := by
  match sd, hS with
  | none, h => rw [h]; trivial
  | some (n, f, r), ⟨s, a, e1, _⟩ => rw [e1]; trivial
