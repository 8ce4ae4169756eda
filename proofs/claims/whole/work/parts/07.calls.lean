section ZC
variable {l : Launch} {G : GT} {M : MT} {d mc ms k n pc pc' : Nat} {Q : Option Value → Hp → Prop} {h : Hp} {lv : LV} {st : List Value}
theorem zcat (G : GT) (st : List Value) : ((st.map (zV G)).map fun v => v.category).sum = (st.map fun v => v.category).sum := by
  induction st with
  | nil => rfl
  | cons a t ih => simp only [List.map_cons, List.sum_cons, ih, zV_cat]
theorem z_after {p : Program} {e : Env} {R : Room} {s : State} {m : MethodId} {args : Array Value} {below : List Frame} {meth : Method} {c : Code} {H : Heap} {locs : List Loc} {cells slots mc' ms' : Nat} {Z : State → Prop} {ls : Array Slot} {rest st0 : List Value} {Q' : Option Value → Hp → Prop}
    (hr : va_Run p l e R s m args below meth c H locs cells slots mc' ms' (F0 m pc ls st0) rest (fun st oc t => (∃ (v : Option Value) (h' : Hp), oc = .returned (v.map (zV G)) ∧ Q' v h' ∧ HR G h' t.heap) ∧ va_F (zW G) st t) (zW G)) (hS : va_S (zW G) s.heap H locs)
    (kk : ∀ (v : Option Value) (h' : Hp) (H1 : Heap) (locs1 : List Loc), Q' v h' → HR G h' H1 → va_S (zW G) s.heap H1 locs1 → W p l e R s m args below meth c H1 locs1 (cells + mc') (slots + ms') Z (F0 m (pc + 3) ls ((v.map (zV G)).toList ++ rest))) : W p l e R s m args below meth c H locs cells slots Z (F0 m pc ls st0) := by
  intro T hT X
  obtain ⟨v, st₀, t, T', L, h0, X', hL, e1, e2, ⟨⟨v2, h', hv, hq, hR⟩, hz, hk⟩, step⟩ := hr T hT X
  have hv2 : v = v2.map (zV G) := Outcome.returned.inj hv
  rw [h0] at hz hk
  obtain ⟨t2, a1, b1⟩ := kk v2 h' T'.heap (locs ++ L) hq (by rw [e1]; exact hR)
    ⟨Nat.le_trans hS.1 (by rw [e1]; exact hz), fun q h1 h2 => by rw [e1, hk q (Nat.lt_of_lt_of_le h1 hS.1) h2]; exact hS.2.1 q h1 h2, fun q hq => by
      rcases List.mem_append.mp hq with h | h
      · exact hS.2.2 q h
      · exact hL q h⟩ T' rfl X'
  rw [hv2] at step
  exact ⟨t2, step t2 a1, b1⟩
theorem z_pre {s : State} {H : Heap} {as : List Value} {locs : List Loc} (hSt : St G s s.heap) (hge : gb G ≤ s.heap.size) (hR : HR G h H) (hS : va_S (zW G) s.heap H locs) : PreS s H (va_Pc (as.map (zV G)) (fun U => St G U U.heap ∧ HR G h U.heap ∧ gb G ≤ U.heap.size)) (as.map (zV G)) :=
  ⟨fun a U g mk q => ⟨q.1, q.2.1.call g mk a, q.2.2.1, q.2.2.2⟩, fun U hU hW => ⟨rfl, hSt.warm hW (by rw [hU]; exact fun q h1 h2 => hS.2.1 q h1 h2), by rw [hU]; exact hR, by rw [hU]; exact Nat.le_trans hge hS.1⟩⟩
/-- the words that a call wants -/
def zwd (own : String) (idx : Nat) (y : MethodName) (My : MT) : Prop := Cond.methodLink own idx y ∈ TB ∧ Cond.code y My.2.1 My.2.2.1 My.2.2.2.1 ∈ TB ∧ Cond.initialized y.cls ∈ TB
theorem zgood {ws : List Cond} (h : ∀ w ∈ ws, w ∈ TB) : GoodIn TB ws := fun w hw => tb_good w (h w hw)
theorem zgood1 {w0 : Cond} {ws : List Cond} (h0 : w0 ∈ TB) (h : ∀ w ∈ ws, w ∈ TB) : ∀ w ∈ w0 :: ws, w ∈ TB := fun w hw => by
  rcases List.mem_cons.mp hw with rfl | hw
  · exact h0
  · exact h w hw
/-- a virtual call, private ones among them -/
theorem aw_callv {My : MT} {y : MethodName} {C : String} {T : u_T} {d' mc' ms' idx b ci N nn : Nat} {as : List Value} {st0 : List Value} {Q' : Option Value → Hp → Prop} (hct : Ct l G My y d' mc' ms' (.ref b :: as) h Q') (hd : decode M.2.1 pc = .ok (.invokevirtual idx, 3)) (hn : pc + 3 = pc') (hw : zwd M.1 idx y My) (hi : Cond.instanceMethod y ∈ TB) (hsl : Cond.selects C y y ∈ TB) (hdd : y.cls = C ∧ y.cls ≠ "java/lang/invoke/MethodHandle" ∧ y.cls ≠ "java/lang/invoke/VarHandle" ∧ (parseMethodDescriptor y.desc).map (fun d => d.parameters.length) = some nn) (hnn : as.length = nn)
    (he : zOb (h.2 b) ci N) (hc : zcl[ci]? = some (C, T, N)) (hdp : d' + 1 ≤ d ∧ My.2.2.1 ≤ 45) (hf : k + mc' ≤ mc ∧ n + ms' ≤ ms) (hst : st0 = as.reverse ++ .ref b :: st) (hsm : (st.map fun v => v.category).sum ≤ 8)
    (kk : ∀ v h', Q' v h' → AW l G M d mc ms Q (k + mc') (n + ms') h' lv (v.toList ++ st) pc') : AW l G M d mc ms Q k n h lv st0 pc := by
  intro p e s m args below meth c H locs ls Z hC hR hS hl hF
  have hx := hC.1
  have hb := hC.2.1
  subst hn
  subst hst
  have hSt := hC.2.2.2.2.2.2.2.2.1
  have hge := hC.2.2.2.2.2.2.2.2.2
  have hts := hC.2.2.2.2.2.2.2.1
  have hPr := z_pre (h := h) (as := .ref b :: as) hSt hge hR hS
  obtain ⟨h16, hz⟩ := hR.obj he.1 hc
  have hrecv := va_recv (q0 := 0) hSt.1 (hR.one h16 he.1 hz) hc rfl
  have hrun := va_runV (H := H) (locs := locs) (cells := k) (slots := n) (e := e) (below := below) (meth := meth) (R := rmd d mc ms) (As := as.map (zV G)) (rest := st.map (zV G)) (g := F0 m pc ls ((as.reverse ++ .ref b :: st).map (zV G))) (C := C) (b := zad G b) (nL := M.2.2.1) ⟨hx, hb, hC.2.2.1, hC.2.2.2.2.2.2.1, hts⟩ hct (cwV nn hts (zgood (ws := wsV M.1 idx C y _) (zgood1 hw.1 (zgood1 hi (zgood1 hsl (zgood1 (hdd.1 ▸ hw.2.2) (zgood1 hw.2.1 (fun w h => h))))))) rfl rfl rfl hdd ⟨hdp.1, by show 8 + (My.2.2.1 + 11) + 64 * d' ≤ 64 * d; omega⟩) ⟨hPr.1, hrecv, hPr.2⟩ rfl (by rw [List.length_map]; exact hnn) (by exact hl.1) (by simp [zV]) (lv_room (by rw [zcat]; exact hsm)) hd hf
  refine z_after (Q' := Q') hrun hS fun v h' H1 locs1 hq hR1 hS1 => ?_
  have K := kk v h' hq p e s m args below meth c H1 locs1 ls Z hC hR1 hS1 hl hF
  rw [List.map_append, show v.toList.map (zV G) = (v.map (zV G)).toList by cases v <;> rfl] at K
  exact K
/-- a static call -/
theorem aw_calls {My : MT} {y : MethodName} {d' mc' ms' idx nn : Nat} {as : List Value} {st0 : List Value} {Q' : Option Value → Hp → Prop} (hct : Ct l G My y d' mc' ms' as h Q') (hd : decode M.2.1 pc = .ok (.invokestatic idx, 3)) (hn : pc + 3 = pc') (hw : zwd M.1 idx y My) (hi : Cond.static y ∈ TB) (hdd : y.cls ≠ "java/lang/invoke/MethodHandle" ∧ y.cls ≠ "java/lang/invoke/VarHandle" ∧ (parseMethodDescriptor y.desc).map (fun d => d.parameters.length) = some nn) (hnn : as.length = nn)
    (hdp : d' + 1 ≤ d ∧ My.2.2.1 ≤ 45) (hf : k + mc' ≤ mc ∧ n + ms' ≤ ms) (hst : st0 = as.reverse ++ st) (hsm : (st.map fun v => v.category).sum ≤ 8)
    (kk : ∀ v h', Q' v h' → AW l G M d mc ms Q (k + mc') (n + ms') h' lv (v.toList ++ st) pc') : AW l G M d mc ms Q k n h lv st0 pc := by
  intro p e s m args below meth c H locs ls Z hC hR hS hl hF
  have hx := hC.1
  have hb := hC.2.1
  subst hn
  subst hst
  have hSt := hC.2.2.2.2.2.2.2.2.1
  have hge := hC.2.2.2.2.2.2.2.2.2
  have hts := hC.2.2.2.2.2.2.2.1
  have hPr := z_pre (h := h) (as := as) hSt hge hR hS
  have hrun := va_runS (H := H) (locs := locs) (cells := k) (slots := n) (e := e) (below := below) (meth := meth) (R := rmd d mc ms) (As := as.map (zV G)) (rest := st.map (zV G)) (g := F0 m pc ls ((as.reverse ++ st).map (zV G))) (nL := M.2.2.1) ⟨hx, hb, hC.2.2.1, hC.2.2.2.2.2.2.1, hts⟩ hct (va_cwS nn hts (zgood (ws := va_wsS M.1 idx y _) (zgood1 hw.1 (zgood1 hi (zgood1 hw.2.2 (zgood1 hw.2.1 (fun w h => h)))))) rfl rfl rfl hdd ⟨hdp.1, by show 8 + (My.2.2.1 + 11) + 64 * d' ≤ 64 * d; omega⟩) hPr rfl (by rw [List.length_map]; exact hnn) (by exact hl.1) (by simp) (lv_room (by rw [zcat]; exact hsm)) hd hf
  refine z_after (Q' := Q') hrun hS fun v h' H1 locs1 hq hR1 hS1 => ?_
  have K := kk v h' hq p e s m args below meth c H1 locs1 ls Z hC hR1 hS1 hl hF
  rw [List.map_append, show v.toList.map (zV G) = (v.map (zV G)).toList by cases v <;> rfl] at K
  exact K
/-- a constructor's call -/
theorem aw_calli {My : MT} {y : MethodName} {d' mc' ms' idx b nn : Nat} {as : List Value} {st0 : List Value} {Q' : Option Value → Hp → Prop} (hct : Ct l G My y d' mc' ms' (.ref b :: as) h Q') (hd : decode M.2.1 pc = .ok (.invokespecial idx, 3)) (hn : pc + 3 = pc') (hw : zwd M.1 idx y My) (hi : Cond.instanceMethod y ∈ TB) (hini : y.name = "<init>") (hret : My.2.2.2.1 = none) (hdd : y.cls ≠ "java/lang/invoke/MethodHandle" ∧ y.cls ≠ "java/lang/invoke/VarHandle" ∧ (parseMethodDescriptor y.desc).map (fun d => d.parameters.length) = some nn) (hnn : as.length = nn)
    (hdp : d' + 1 ≤ d ∧ My.2.2.1 ≤ 45) (hf : k + mc' ≤ mc ∧ n + ms' ≤ ms) (hst : st0 = as.reverse ++ .ref b :: st) (hsm : (st.map fun v => v.category).sum ≤ 8)
    (kk : ∀ v h', Q' v h' → AW l G M d mc ms Q (k + mc') (n + ms') h' lv (v.toList ++ st) pc') : AW l G M d mc ms Q k n h lv st0 pc := by
  intro p e s m args below meth c H locs ls Z hC hR hS hl hF
  have hx := hC.1
  have hb := hC.2.1
  subst hn
  subst hst
  have hSt := hC.2.2.2.2.2.2.2.2.1
  have hge := hC.2.2.2.2.2.2.2.2.2
  have hts := hC.2.2.2.2.2.2.2.1
  have hPr := z_pre (h := h) (as := .ref b :: as) hSt hge hR hS
  obtain ⟨hw1, hw2, hw3⟩ := hw
  unfold Ct at hct
  rw [hret] at hct hw2
  have hrun := va_runI (H := H) (locs := locs) (cells := k) (slots := n) (e := e) (below := below) (meth := meth) (R := rmd d mc ms) (As := as.map (zV G)) (rest := st.map (zV G)) (b := zad G b) (g := F0 m pc ls ((as.reverse ++ .ref b :: st).map (zV G))) (nL := M.2.2.1) ⟨hx, hb, hC.2.2.1, hC.2.2.2.2.2.2.1, hts⟩ hct (cwI nn hts (zgood (zgood1 hw2 (fun w h => h))) rfl rfl rfl (hts _ hw3) (hts _ hw1) (hts _ hi) hini hdd ⟨hdp.1, by show 8 + (My.2.2.1 + 11) + 64 * d' ≤ 64 * d; omega⟩) hPr rfl (by rw [List.length_map]; exact hnn) (by exact hl.1) (by simp [zV]) (lv_room (by rw [zcat]; exact hsm)) hd hf
  refine z_after (Q' := Q') hrun hS fun v h' H1 locs1 hq hR1 hS1 => ?_
  have K := kk v h' hq p e s m args below meth c H1 locs1 ls Z hC hR1 hS1 hl hF
  rw [List.map_append, show v.toList.map (zV G) = (v.map (zV G)).toList by cases v <;> rfl] at K
  exact K
/-- a nest mate's constructor -/
theorem aw_calliN {My : MT} {y : MethodName} {d' mc' ms' idx b nn : Nat} {as : List Value} {st0 : List Value} {Q' : Option Value → Hp → Prop} (hct : Ct l G My y d' mc' ms' (.ref b :: as) h Q') (hd : decode M.2.1 pc = .ok (.invokespecial idx, 3)) (hn : pc + 3 = pc') (hM : M.1 = "AmberGrains") (hwN : (idx, y) ∈ znM) (hw2 : Cond.code y My.2.1 My.2.2.1 My.2.2.2.1 ∈ TB) (hw3 : Cond.initialized y.cls ∈ TB) (hi : Cond.instanceMethod y ∈ TB) (hini : y.name = "<init>") (hret : My.2.2.2.1 = none) (hdd : y.cls ≠ "java/lang/invoke/MethodHandle" ∧ y.cls ≠ "java/lang/invoke/VarHandle" ∧ (parseMethodDescriptor y.desc).map (fun d => d.parameters.length) = some nn) (hnn : as.length = nn)
    (hdp : d' + 1 ≤ d ∧ My.2.2.1 ≤ 45) (hf : k + mc' ≤ mc ∧ n + ms' ≤ ms) (hst : st0 = as.reverse ++ .ref b :: st) (hsm : (st.map fun v => v.category).sum ≤ 8)
    (kk : ∀ v h', Q' v h' → AW l G M d mc ms Q (k + mc') (n + ms') h' lv (v.toList ++ st) pc') : AW l G M d mc ms Q k n h lv st0 pc := by
  intro p e s m args below meth c H locs ls Z hC hR hS hl hF
  have hx := hC.1
  have hb := hC.2.1
  subst hn
  subst hst
  have hSt := hC.2.2.2.2.2.2.2.2.1
  have hge := hC.2.2.2.2.2.2.2.2.2
  have hts := hC.2.2.2.2.2.2.2.1
  have hPr := z_pre (h := h) (as := .ref b :: as) hSt hge hR hS
  have hw1 := hSt.2.2.2.2.2.2.2.2.1 _ hwN
  unfold Ct at hct
  rw [hret] at hct hw2
  rw [← hM] at hw1
  have hrun := va_runIN (H := H) (locs := locs) (cells := k) (slots := n) (e := e) (below := below) (meth := meth) (R := rmd d mc ms) (As := as.map (zV G)) (rest := st.map (zV G)) (b := zad G b) (g := F0 m pc ls ((as.reverse ++ .ref b :: st).map (zV G))) (nL := M.2.2.1) ⟨hx, hb, hC.2.2.1, hC.2.2.2.2.2.2.1, hts⟩ hct ⟨va_cnB nn hts (zgood (zgood1 hw2 (fun w h => h))) rfl rfl rfl hw1 (hts _ hw3) hdd ⟨hdp.1, by show 8 + (My.2.2.1 + 11) + 64 * d' ≤ 64 * d; omega⟩, hini, hts _ hi⟩ hPr rfl (by rw [List.length_map]; exact hnn) (by exact hl.1) (by simp [zV]) (lv_room (by rw [zcat]; exact hsm)) hd hf
  refine z_after (Q' := Q') hrun hS fun v h' H1 locs1 hq hR1 hS1 => ?_
  have K := kk v h' hq p e s m args below meth c H1 locs1 ls Z hC hR1 hS1 hl hF
  rw [List.map_append, show v.toList.map (zV G) = (v.map (zV G)).toList by cases v <;> rfl] at K
  exact K
/-- Object's constructor -/
theorem aw_objInit {idx a : Nat} (hd : decode M.2.1 pc = .ok (.invokespecial idx, 3)) (hn : pc + 3 = pc') (hw : Cond.methodLink M.1 idx objectInit ∈ TB) (hi : Cond.instanceMethod objectInit ∈ TB) (hcd : Cond.code objectInit ⟨#[0xb1]⟩ 1 none ∈ TB) (hd1 : 1 ≤ d) (hsm : (st.map fun v => v.category).sum ≤ 8)
    (kk : AW l G M d mc ms Q k n h lv st pc') : AW l G M d mc ms Q k n h lv (.ref a :: st) pc := by
  intro p e s m args below meth c H locs ls Z hC hR hS hl hF
  have hx := hC.1
  have hb := hC.2.1
  subst hn
  have hts := hC.2.2.2.2.2.2.2.1
  exact W.objInit hx hb hC.2.2.2.2.2.2.1 (hts _ hw) (hts _ hi) (hts _ hcd) (g := F0 m pc ls (zV G (.ref a) :: st.map (zV G))) rfl (by rw [hC.2.2.1]; exact hl.1) (a := zad G a) rfl hd hd1 (by show 2 * 0 + ((st.map (zV G)).map fun v => v.category).sum + 12 ≤ 64 * d; rw [zcat]; omega) (kk p e s m args below meth c H locs ls Z hC hR hS hl hF)
/-- a method's contract out of its walk -/
theorem ct_of {y : MethodName} {as : List Value} (hy : plainName y.cls = true) (hcls : y.cls = M.1) (hini : M.2.2.2.2 = true → y.name = "<init>") (hlv : ∀ G : GT, zlv G 0 lv = lv_args 0 (as.map (zV G))) (hln : ∀ G : GT, (lg_sl (as.map (zV G))).length ≤ M.2.2.1) (aw : AW l G M d mc ms Q 0 0 h lv [] 0) : Ct l G M y d mc ms as h Q := by
  refine Met.ofW (cc := M.2.1) (maxL := M.2.2.1) (ret := M.2.2.2.1) hy rfl ?_
  intro p e s m args below meth c s₁ B hml hv
  obtain ⟨rfl, hSt, hR, hge⟩ := hv
  have hts := atoms_spec (ws := .code y M.2.1 M.2.2.1 M.2.2.2.1 :: TB) B.pre
  have hown : s.vm.findClass y.cls = some m.cls := findClass_of_methodNamed B.named
  rw [hcls] at hown
  have hl := lv_entry (as.map (zV G)) (hln G)
  rw [← hlv G] at hl
  rw [lg_entry_eq]
  have hC : Cx G M p s m (as.map (zV G)).toArray meth c := ⟨B.exec, B.bytes, hml, B.returns, B.notSynchronized, fun z => ((name_of_methodNamed B.named B.method).1).trans (hini z), hown, fun w hw => hts w (List.mem_cons_of_mem _ hw), hSt, hge⟩
  refine aw p e s m _ below meth c s.heap [] _ _ hC hR va_S.rf hl ?_
  intro v h' H' locs pc ls i hq hR' hS' hd hz
  have hpost : ∀ (t : State), t.heap = H' → ∀ oc : Outcome, oc = .returned (v.map (zV G)) → (∃ (v : Option Value) (h' : Hp), oc = .returned (v.map (zV G)) ∧ Q v h' ∧ HR G h' t.heap) ∧ va_F (zW G) s t := fun t ht oc ho => ⟨⟨v, h', ho, hq, by rw [ht]; exact hR'⟩, hS'.F ht⟩
  have hlocks := B.notSynchronized
  have hrt := B.returns
  unfold zri at hz
  split at hz
  · rename_i heq
    subst hz
    exact W.vret B.exec B.bytes (hrt.trans heq) (fun t ht _ => hpost t ht _ rfl) hS'.2.2 hd hlocks
  · rename_i x ty heq
    obtain ⟨rfl, hnr⟩ := hz
    exact W.zret B.exec B.bytes (hrt.trans heq) hnr (fun t ht _ => hpost t ht _ rfl) hS'.2.2 hd hlocks
  · rename_i x ty heq
    obtain ⟨rfl, rfl⟩ := hz
    exact W.lret B.exec B.bytes (hrt.trans heq) (fun t ht _ => hpost t ht _ rfl) hS'.2.2 hd hlocks
  · rename_i x ty heq
    obtain ⟨rfl, hty⟩ := hz
    exact W.aret B.exec B.bytes (hrt.trans heq) (by cases ty <;> first | exact Or.inl ⟨_, rfl⟩ | exact Or.inr ⟨_, rfl⟩ | cases hty) (Or.inr ⟨_, rfl⟩) (fun t ht _ => hpost t ht _ rfl) hS'.2.2 hd hlocks
  · rename_i ty heq
    obtain ⟨rfl, hty⟩ := hz
    exact W.aret B.exec B.bytes (hrt.trans heq) (by cases ty <;> first | exact Or.inl ⟨_, rfl⟩ | exact Or.inr ⟨_, rfl⟩ | cases hty) (Or.inl rfl) (fun t ht _ => hpost t ht _ rfl) hS'.2.2 hd hlocks
  · exact hz.elim
end ZC
