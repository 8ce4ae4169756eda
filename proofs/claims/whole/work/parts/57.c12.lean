/-! what is made; a clause; a sea is read -/
section C12
variable {l : Launch} {G : GT} {M : MT} {e n d k mc ms m pc pc' : Nat} {h : Hp} {Q : Option Value → Hp → Prop} {lv : LV} {st : List Value} {R : Nat → Int32} {a : Nat} {b : Bool} {ss : List Int32} {r : Int32}
/-- one cell more, all others as they were -/
def NewS (h h' : Hp) : Prop := h'.1 = h.1 + 1 ∧ ∀ x, x ≠ h.1 + 16 → h'.2 x = h.2 x
theorem NewS.hn (e : zE) : NewS h (hnew h e) := ⟨rfl, fun x hx => if_neg hx⟩
theorem OA.nw {h' : Hp} {a : Nat} {e : zE} (hO : OA h a e) (hN : NewS h h') (ha : a ≠ h.1 + 16) : OA h' a e := ⟨(hN.2 a ha).trans hO.1, hO.2⟩
theorem RdAt.nw {h' : Hp} (hR : RdAt h e n R a b ss r) (hN : NewS h h') (he : e + 3 ≤ h.1 + 16) : RdAt h' e n R a b ss r := by
  obtain ⟨h1, ⟨T, h2, h3⟩, f, h4, h5⟩ := hR
  exact ⟨h1.nw hN (by omega), ⟨T, h2.nw hN (by omega), h3⟩, f, h4.nw hN (by omega), h5⟩
theorem aw_Onwi {i : Int32} {N' : Nat} (hd : decode M.2.1 pc = .ok (.newarray .int, 2)) (hn : pc + 2 = pc') (hw : Cond.arrayClass .int ∈ TB) (hi : i = nI N') (hl : N' ≤ 1000) (hk : k + 1 ≤ mc) (hm : m + N' ≤ ms)
    (kk : ∀ h', OA h' (h.1 + 16) (.inl (0, (N', .inl (fun _ => 0)))) → NewS h h' → AW l G M d mc ms Q (k + 1) (m + N') h' lv (.ref (h.1 + 16) :: st) pc') : AW l G M d mc ms Q k m h lv (.int i :: st) pc := by
  subst hi
  exact aw_newa (kd := 0) (N' := N') (x := (N', .inl (fun _ => 0))) hd hn hw (by decide) rfl (fun _ => rfl) (fun _ => rfl) (fun z => by rw [Int32.lt_iff_toInt_lt, nI_toInt (by omega), show (0 : Int32).toInt = 0 from by decide] at z; omega) (nI_clamp (by omega)) (by show N' * 4 ≤ _; omega) hk hm (kk _ ⟨if_pos rfl, by omega⟩ (NewS.hn _))
theorem aw_Onwo {ci N idx : Nat} {C : String} {T : u_T} {ty0 : Nat → FieldType} {fs : List Value} (hd : decode M.2.1 pc = .ok (.new idx, 3)) (hn : pc + 3 = pc') (hc : zcl[ci]? = some (C, T, N)) (hin : ∀ w ∈ u_ws C T N, w ∈ TB) (hty : ∀ k, k < N → parseFieldDescriptor (T k).2.2.1 = some (ty0 k)) (hcl : Cond.classLink M.1 idx C ∈ TB) (hinst : Cond.instantiable C N ∈ TB) (hini : Cond.initialized C ∈ TB) (hfs : ∀ j, j < N → defaultValue (ty0 j) = vp_V fs j) (hf0 : ∀ G : GT, fs.map (zV G) = fs) (hk : k + 1 ≤ mc) (hm : m + N ≤ ms)
    (kk : ∀ h', OA h' (h.1 + 16) (.inr (ci, fs)) → NewS h h' → AW l G M d mc ms Q (k + 1) (m + N) h' lv (.ref (h.1 + 16) :: st) pc') : AW l G M d mc ms Q k m h lv st pc :=
  aw_new hd hn hc hin hty hcl hinst hini hfs hf0 hk hm (kk _ ⟨if_pos rfl, by omega⟩ (NewS.hn _))
theorem aw_OputF {a ci kf N idx : Nat} {C : String} {T : u_T} {ty0 : Nat → FieldType} {v : Value} {fs : List Value} (fs' : List Value) (hO : OA h a (.inr (ci, fs))) (hd : decode M.2.1 pc = .ok (.putfield idx, 3)) (hn : pc + 3 = pc') (hlen : fs.length = N) (hc : zcl[ci]? = some (C, T, N)) (hin : ∀ w ∈ u_ws C T N, w ∈ TB) (hty : ∀ k, k < N → parseFieldDescriptor (T k).2.2.1 = some (ty0 k)) (hnm : ∀ a, a < N → ∀ b, b < N → a ≠ b → (T a).2.1 ≠ (T b).2.1) (hk : kf < N) (hw : Cond.fieldLink M.1 idx (T kf).1 (T kf).2.1 (T kf).2.2.1 ∈ TB) (hfin : (T kf).2.2.2 = true) (hin2 : M.2.2.2.2 = true) (hdecl : (T kf).1 = M.1) (hv : zfit (ty0 kf) v) (hf : fs.set kf v = fs')
    (kk : ∀ h', OA h' a (.inr (ci, fs')) → Same a 1 h h' → AW l G M d mc ms Q k m h' lv st pc') : AW l G M d mc ms Q k m h lv (v :: .ref a :: st) pc := by
  refine aw_putF hd hn (by rw [hO.1]; exact ⟨rfl, hlen⟩) hc hin hty hnm hk hw hfin hin2 hdecl hv ?_
  rw [hO.1]
  subst hf
  exact kk _ hO.hs same_h1
/-! a clause, as the model has it -/
theorem ltN_adv {B : Nat → Int32} {p : PP} : ∀ j, (ltN R n B p j).2 = true → (ltN R n B p j).1 = p.1 + j ∧ p.2 = true
  | 0, h => ⟨rfl, h⟩
  | j + 1, h => by
    rw [ltN, pTk] at h ⊢
    split at h
    · rename_i z
      rw [if_pos z]
      have := ltN_adv j h
      exact ⟨by show (ltN R n B p j).1 + 1 = _; rw [this.1]; omega, this.2⟩
    · cases h
theorem pTk_t {p : PP} {c : Int32} (h : (pTk R n p c).2 = true) : pTk R n p c = (p.1 + 1, true) ∧ p.2 = true := by
  unfold pTk at h ⊢
  split at h
  · rename_i z
    rw [if_pos z]
    have h : p.2 = true := h
    exact ⟨by rw [h], h⟩
  · cases h
theorem pNum_t {p : PP} (h : (pNum R n p).2.2 = true) : p.2 = true := by
  cases e : p.2
  · rw [pNum_no e] at h
    rw [← e]; exact h
  · rfl
theorem PX_t {t k : Nat} {b : Bool} {p : PP} {L N : Nat → Int32} (ht : t ≤ 4) (h : (PX R n L N t k b p).2.2 = true) : p.2 = true := by
  cases e : p.2
  · rw [show (PX R n L N t k b p).2 = p from pX_no fu t k b p ht e] at h
    rw [← e]; exact h
  · rfl
abbrev by1 (i : Nat) : Nat → Int32 := fun j => (sByt.getD i []).getD j 0
theorem wl2 (p : PP) : pTk R n (pWl R n mWo 2 5 0 p) 32 = ltN R n (by1 1) p 5 := by
  rw [pWl, if_neg (show ¬ mWo (5 * 2 + 0) = 0 by decide), pWl, if_neg (show ¬ mWo (5 * 2 + (0 + 1)) = 0 by decide), pWl, if_neg (show ¬ mWo (5 * 2 + (0 + 1 + 1)) = 0 by decide), pWl, if_neg (show ¬ mWo (5 * 2 + (0 + 1 + 1 + 1)) = 0 by decide), pWl, if_pos (show mWo (5 * 2 + (0 + 1 + 1 + 1 + 1)) = 0 by decide)]
  rfl
theorem wl0 (p : PP) : pTk R n (pWl R n mWo 0 5 0 p) 32 = ltN R n (by1 2) p 5 := by
  rw [pWl, if_neg (show ¬ mWo (5 * 0 + 0) = 0 by decide), pWl, if_neg (show ¬ mWo (5 * 0 + (0 + 1)) = 0 by decide), pWl, if_neg (show ¬ mWo (5 * 0 + (0 + 1 + 1)) = 0 by decide), pWl, if_neg (show ¬ mWo (5 * 0 + (0 + 1 + 1 + 1)) = 0 by decide), pWl, if_pos (show mWo (5 * 0 + (0 + 1 + 1 + 1 + 1)) = 0 by decide)]
  rfl
theorem wl1 (p : PP) : pTk R n (pWl R n mWo 1 5 0 p) 32 = ltN R n (by1 3) p 6 := by
  rw [pWl, if_neg (show ¬ mWo (5 * 1 + 0) = 0 by decide), pWl, if_neg (show ¬ mWo (5 * 1 + (0 + 1)) = 0 by decide), pWl, if_neg (show ¬ mWo (5 * 1 + (0 + 1 + 1)) = 0 by decide), pWl, if_neg (show ¬ mWo (5 * 1 + (0 + 1 + 1 + 1)) = 0 by decide), pWl, if_neg (show ¬ mWo (5 * 1 + (0 + 1 + 1 + 1 + 1)) = 0 by decide), pWl]
  rfl
/-- is it sour -/
def isSo (R : Nat → Int32) (n a : Nat) : Bool := decide (a + 1 < n) && decide (R (a + 1) = 111)
/-- behind the word and the blank -/
def cQ1 (R : Nat → Int32) (n a : Nat) : PP := if isSo R n a = true then ltN R n (by1 2) (a, true) 5 else ltN R n (by1 3) (a, true) 6
noncomputable def cQ2 (R : Nat → Int32) (n a : Nat) : PP := pTk R n (pNum R n (cQ1 R n a)).2 32
theorem mism (h1 : ¬ (a + 1 < n ∧ R (a + 1) = 111)) (h2 : ¬ (a + 1 < n ∧ R (a + 1) = 119)) : ltN R n (by1 2) (a, true) 5 = ltN R n (by1 3) (a, true) 6 ∧ (ltN R n (by1 3) (a, true) 6).2 = false := by
  have e2 : ltN R n (by1 2) (a, true) 2 = ltN R n (by1 3) (a, true) 2 ∧ (ltN R n (by1 3) (a, true) 2).2 = false := by
    show pTk R n (pTk R n (a, true) 115) 111 = pTk R n (pTk R n (a, true) 115) 119 ∧ (pTk R n (pTk R n (a, true) 115) 119).2 = false
    by_cases c : pAt R n (a, true) 115 = true
    · have e : pTk R n (a, true) 115 = (a + 1, true) := by rw [pTk, if_pos c]
      have n1 : ¬ pAt R n (a + 1, true) 111 = true := fun z => h1 (by simp [pAt] at z; exact z)
      have n2 : ¬ pAt R n (a + 1, true) 119 = true := fun z => h2 (by simp [pAt] at z; exact z)
      rw [e, pTk, pTk, if_neg n1, if_neg n2]
      exact ⟨rfl, rfl⟩
    · have e : pTk R n (a, true) 115 = (a, false) := by rw [pTk, if_neg c]
      rw [e, pTk_no rfl, pTk_no rfl]
      exact ⟨rfl, rfl⟩
  have z1 := ltN_no (R := R) (n := n) (B := by1 2) (p := (a, true)) (j := 2) (by rw [e2.1]; exact e2.2) 3
  have z2 := ltN_no (R := R) (n := n) (B := by1 3) (p := (a, true)) (j := 2) e2.2 4
  rw [show 2 + 3 = 5 from rfl] at z1
  rw [show 2 + 4 = 6 from rfl] at z2
  rw [z1, z2]
  exact e2
theorem cl_eq {N : Nat → Int32} {s : Int32} (hn : n ≤ 100) (h114 : ¬ pAt R n (a, true) 114 = true) : (pCl R n mLe N mWo ((a, true), s, r)).1 = (PX R n mLe N0 3 0 false (cQ2 R n a)).2 ∧ (pCl R n mLe N mWo ((a, true), s, r)).2.2 = r ∧ ((PX R n mLe N0 3 0 false (cQ2 R n a)).2.2 = true → (pCl R n mLe N mWo ((a, true), s, r)).2.1 = s + (if (PX R n mLe N 3 0 false (cQ2 R n a)).1 = true then (if isSo R n a = true then (pNum R n (cQ1 R n a)).1 else -(pNum R n (cQ1 R n a)).1) else 0)) := by
  have hw : pWh R n (a, true) = if a + 1 < n ∧ R (a + 1) = 119 then 1 else 0 := by rw [pWh, if_neg h114]
  have key : ∀ w, w = 0 ∨ w = 1 → pWh R n (a, true) = w → pCl R n mLe N mWo ((a, true), s, r) = ((PX R n mLe N 3 0 false (pTk R n (pNum R n (pTk R n (pWl R n mWo w 5 0 (a, true)) 32)).2 32)).2, s + (if (PX R n mLe N 3 0 false (pTk R n (pNum R n (pTk R n (pWl R n mWo w 5 0 (a, true)) 32)).2 32)).1 = true then (if w = 0 then (pNum R n (pTk R n (pWl R n mWo w 5 0 (a, true)) 32)).1 else -(pNum R n (pTk R n (pWl R n mWo w 5 0 (a, true)) 32)).1) else 0), r) := fun w hw2 e => by
    unfold pCl pTl
    rw [e, if_neg (by omega)]
    unfold PX
    rw [fu_eq]
  by_cases so : a + 1 < n ∧ R (a + 1) = 111
  · have e0 : pWh R n (a, true) = 0 := by
      rw [hw, if_neg]
      rintro ⟨-, z⟩
      rw [so.2] at z
      exact absurd z (by decide)
    have eS : isSo R n a = true := by simp [isSo, so]
    have e1 : cQ1 R n a = ltN R n (by1 2) (a, true) 5 := if_pos eS
    rw [key 0 (Or.inl rfl) e0, wl0, ← e1, if_pos eS]
    exact ⟨PX_pos (by omega), rfl, fun _ => rfl⟩
  · have eS : ¬ isSo R n a = true := by
      unfold isSo
      simp only [Bool.and_eq_true, decide_eq_true_eq]
      exact so
    have e1 : cQ1 R n a = ltN R n (by1 3) (a, true) 6 := if_neg eS
    by_cases sw : a + 1 < n ∧ R (a + 1) = 119
    · have e0 : pWh R n (a, true) = 1 := by rw [hw, if_pos sw]
      rw [key 1 (Or.inr rfl) e0, wl1, ← e1, if_neg eS]
      exact ⟨PX_pos (by omega), rfl, fun _ => rfl⟩
    · have e0 : pWh R n (a, true) = 0 := by rw [hw, if_neg sw]
      obtain ⟨m1, m2⟩ := mism so sw
      rw [key 0 (Or.inl rfl) e0, wl0, m1, ← e1]
      exact ⟨PX_pos (by omega), rfl, fun z => by
        exfalso
        have z2 := PX_t (by omega) z
        unfold cQ2 at z2
        have z3 := pNum_t (pTk_t z2).2
        rw [e1, m2] at z3
        cases z3⟩
theorem cl_r {N : Nat → Int32} {s : Int32} (h114 : pAt R n (a, true) 114 = true) : pCl R n mLe N mWo ((a, true), s, r) = ((pNum R n (ltN R n (by1 1) (a, true) 5)).2, s, (pNum R n (ltN R n (by1 1) (a, true) 5)).1) := by
  unfold pCl pTl
  rw [show pWh R n (a, true) = 2 by rw [pWh, if_pos h114], if_pos rfl, wl2]
theorem cs_ext {A : CS} {p : PP} {x y : Int32} (h1 : A.1 = p) (h2 : A.2.1 = x) (h3 : A.2.2 = y) : A = (p, x, y) := by
  subst h1 h2 h3
  rfl
/-- a clause's steps: what they add, whoever asks -/
def ClS (R : Nat → Int32) (n : Nat) (ss ss' : List Int32) (a : Nat) (r : Int32) (C : CS) : Prop := C = pCl R n mLe N0 mWo ((a, true), 0, r) ∧ (∀ N s, ∃ s', pCl R n mLe N mWo ((a, true), s, r) = (C.1, s', C.2.2)) ∧ ss'.length + a ≤ C.1.1 + ss.length ∧ (C.1.2 = true → ss'.length + a + 3 ≤ C.1.1 + ss.length ∧ ∃ (c : List Int32) (D : (Nat → Int32) → Int32), ss' = ss ++ c ∧ ∀ N, (∀ t, run N c (t, nI 0) = (t + D N, nI 0)) ∧ ∀ s, pCl R n mLe N mWo ((a, true), s, r) = (C.1, s + D N, C.2.2))
theorem ClS.rm (h114 : pAt R n (a, true) 114 = true) (hl : ss.length ≤ a) : ClS R n ss ss a r (pCl R n mLe N0 mWo ((a, true), 0, r)) := by
  have e := fun N s => cl_r (r := r) (N := N) (s := s) h114
  refine ⟨rfl, fun N s => ⟨s, by rw [e, e]⟩, ?_, fun z => ⟨?_, [], fun _ => 0, (List.append_nil ss).symm, fun N => ⟨fun t => by rw [Int32.add_zero]; rfl, fun s => by rw [e, e, Int32.add_zero]⟩⟩⟩
  · rw [e]
    have h1 : (ltN R n (by1 1) (a, true) 5).1 ≤ (pNum R n (ltN R n (by1 1) (a, true) 5)).2.1 := pNum_ge
    have h2 : ∀ j, a ≤ (ltN R n (by1 1) (a, true) j).1 := fun j => by
      induction j with
      | zero => exact Nat.le_refl _
      | succ j ih => exact Nat.le_trans ih pTk_ge
    have := h2 5
    show _ ≤ (pNum R n (ltN R n (by1 1) (a, true) 5)).2.1 + ss.length
    omega
  · rw [e] at z ⊢
    have h1 : (ltN R n (by1 1) (a, true) 5).1 ≤ (pNum R n (ltN R n (by1 1) (a, true) 5)).2.1 := pNum_ge
    have h2 := (ltN_adv 5 (pNum_t z)).1
    have h2 : (ltN R n (by1 1) (a, true) 5).1 = a + 5 := h2
    show _ ≤ (pNum R n (ltN R n (by1 1) (a, true) 5)).2.1 + ss.length
    omega
theorem q2_ge (hz : (cQ2 R n a).2 = true) : a + 5 ≤ (cQ1 R n a).1 ∧ (cQ1 R n a).1 ≤ (cQ2 R n a).1 ∧ (pNum R n (cQ1 R n a)).2.2 = true := by
  have h1 := (pTk_t hz).2
  have h2 := pNum_t h1
  refine ⟨?_, Nat.le_trans pNum_ge pTk_ge, h1⟩
  unfold cQ1 at h2 ⊢
  split at h2
  · rename_i z
    rw [if_pos z, (ltN_adv 5 h2).1]
    exact Nat.le_refl _
  · rename_i z
    rw [if_neg z, (ltN_adv 6 h2).1]
    show a + 5 ≤ a + 6
    omega
theorem q_ge : a ≤ (cQ2 R n a).1 := by
  have h2 : ∀ i j, a ≤ (ltN R n (by1 i) (a, true) j).1 := fun i j => by
    induction j with
    | zero => exact Nat.le_refl _
    | succ j ih => exact Nat.le_trans ih pTk_ge
  refine Nat.le_trans ?_ (Nat.le_trans pNum_ge pTk_ge)
  unfold cQ1
  split
  · exact h2 2 5
  · exact h2 3 6
theorem ClS.so {ss1 ss' : List Int32} (hn : n ≤ 100) (hA : RA R n) (h114 : ¬ pAt R n (a, true) 114 = true) (hs : SO ss ss1 (cQ2 R n a).1 (PX R n mLe N0 3 0 false (cQ2 R n a)).2.1 (PX R n mLe N0 3 0 false (cQ2 R n a)).2.2 (fun N => (PX R n mLe N 3 0 false (cQ2 R n a)).1) 11) {x : Int32} (hx : x = (((pNum R n (cQ1 R n a)).1 <<< (8 &&& 31)) ||| ((0 : Int32) <<< (4 &&& 31))) ||| (if isSo R n a = true then (6 : Int32) else 7)) (h' : ss' = if (PX R n mLe N0 3 0 false (cQ2 R n a)).2.2 = true then ss1 ++ [x] else ss1) : ClS R n ss ss' a r (pCl R n mLe N0 mWo ((a, true), 0, r)) := by
  have e := fun N s => cl_eq (r := r) (N := N) (s := s) hn h114
  have eP : ∀ N s, (pCl R n mLe N mWo ((a, true), s, r)).1 = (pCl R n mLe N0 mWo ((a, true), 0, r)).1 := fun N s => by rw [(e N s).1, (e N0 0).1]
  have eR : ∀ N s, (pCl R n mLe N mWo ((a, true), s, r)).2.2 = (pCl R n mLe N0 mWo ((a, true), 0, r)).2.2 := fun N s => by rw [(e N s).2.1, (e N0 0).2.1]
  have q := q_ge (R := R) (n := n) (a := a)
  have hs1 := hs.1
  refine ⟨rfl, fun N s => ⟨_, cs_ext (eP N s) rfl (eR N s)⟩, ?_, fun z => ?_⟩
  · rw [(e N0 0).1]
    by_cases c : (PX R n mLe N0 3 0 false (cQ2 R n a)).2.2 = true
    · have := q2_ge (PX_t (by omega) c)
      rw [h', if_pos c, List.length_append, List.length_singleton]
      omega
    · rw [h', if_neg c]
      omega
  · rw [(e N0 0).1] at z
    have g := q2_ge (PX_t (by omega) z)
    obtain ⟨c, e1, e2⟩ := hs.2 z
    obtain ⟨v, hv, ev⟩ := pNum_v hA g.2.2
    rw [h', if_pos z]
    refine ⟨by rw [(e N0 0).1, List.length_append, List.length_singleton]; omega, c ++ [x], fun N => if (PX R n mLe N 3 0 false (cQ2 R n a)).1 = true then (if isSo R n a = true then nI v else -nI v) else 0, by rw [e1, List.append_assoc], fun N => ⟨fun t => ?_, fun s => ?_⟩⟩
    · rw [run, List.foldl_append, show c.foldl (fun x s => cA1 s N x) (t, nI 0) = _ from e2 N t 0 0 (by decide) (by omega)]
      rw [ev] at hx
      have hx2 : x = enc (if isSo R n a = true then 6 else 7) 0 v := by
        rw [hx]
        split <;> rfl
      rw [hx2]
      show cA1 (enc (if isSo R n a = true then 6 else 7) 0 v) N (t, nI (2 * 0 + _)) = _
      rw [Nat.mul_zero, Nat.zero_add, cA_s (by split <;> omega) hv]
      by_cases y : isSo R n a = true
      · rw [if_pos y, if_pos y, if_pos rfl]
      · rw [if_neg y, if_neg y, if_neg (show ¬ (7 : Nat) = 6 by decide)]
    · refine cs_ext (eP N s) ?_ (eR N s)
      rw [(e N s).2.2 z, ev]

end C12
