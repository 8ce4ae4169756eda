/-! THE CLAIM OUT OF ONE WALK OF THE LAW'S BODY. Your part is whole_start (and what it stands on); all else here is the same for every law, but numbers. -/
def R_law : String := "AmberGrainsLaw"
def lw_P (b : Addr) (xs : List Int32) (args : Array Value) (s : State) : Prop := args = #[.ref b] ∧ s.IntsAt b xs ∧ xs.length ≤ 3072 ∧ (Jvm.Cond.and given_1 narrow_1).before args s = true
def lw_Q (_ : Array Value) (s : State) (o : Outcome) (t : State) : Prop := o = .returned (some (.int 1)) ∧ Framed s o t [] 600000 7302250
def lw_Z (below : List Frame) (a : Array Value) (s : State) : State → Prop := fun t => ∃ o, t.status = .running ∧ Ended t below o ∧ lw_Q a s o t
/-- the law's own end, with 1 on the stack, nothing written that was there before, its room as the claim has it -/
theorem lw_ret {p : Program} {l : Launch} {e : Env} {s : State} {m : MethodId} {below : List Frame} {meth : Method} {c : Code} {b : Nat} (hx : p.tables.exec = Jvm.exec) (hb : c.code = code) (hr : meth.sig.returnType = ret) (hlocks : meth.locks = false) {pc : Nat} {H : Heap} {ls : Array Slot} (hdg : decode code pc = .ok (.ireturn, 1)) : W p l e room_1 s m #[Value.ref b] below meth c H [] 600000 7302250 (lw_Z below #[Value.ref b] s) (F0 m pc ls [.int 1]) := by
  intro T hT X
  obtain ⟨fs, hret, hrun, hended, hW, hframe⟩ := X.leave (v := some (.int 1)) (hlocks := hlocks) (fun h => by rw [hr] at h; cases h)
  have hmeth' : T.vm.method? m = some meth := X.method'
  refine ⟨T.setFrames fs, ?_, .returned (some (.int 1)), hrun, hended, rfl, ⟨_, rfl⟩, hW, hframe⟩
  jvm_step X.here [X.here.top, hx, hb, hdg, hmeth', hr, ret, narrow_b1]
  (try refine ⟨rfl, ?_⟩); (try refine ⟨rfl, ?_⟩)
  first | (intro acts; rw [hret _ acts rfl rfl rfl]) | rw [hret _ _ rfl rfl rfl]
  exact Steps.refl _
/-- what holds at the law's entry: the machine, the code, the tables' words (any of lw_tbl by 'hts w (by decide +kernel)'), the script of L ints xs at the cell b, what the Statement gives of the start (any of its parts by flat_of_before) -/
def lw_At (p : Program) (s : State) (m : MethodId) (meth : Method) (c : Code) (b L : Nat) (xs : Nat → Int32) : Prop :=
  p.tables.exec = Jvm.exec ∧ c.code = code ∧ meth.sig.returnType = ret ∧ c.maxLocals = 4 ∧ s.vm.findClass R_law = some m.cls ∧ (∀ w ∈ lw_tbl, w.before #[Value.ref b] s = true) ∧ va_X b L xs s s.heap ∧ b < s.heap.size ∧ meth.locks = false ∧ (Jvm.Cond.and given_1 narrow_1).before #[Value.ref b] s = true
/-! what stands at the law's start -/
theorem hasRoom_mono {s : State} {pl : Platform} {r r' : Room} (h : s.hasRoom pl r = true) (h1 : r'.frames ≤ r.frames) (h2 : r'.cells ≤ r.cells) (h3 : r'.slots ≤ r.slots) (h4 : r'.locals ≤ r.locals) : s.hasRoom pl r' = true := by
  simp only [State.hasRoom, Bool.and_eq_true, decide_eq_true_eq] at h ⊢
  obtain ⟨⟨⟨⟨a1, a2, a3, a4, a5, a6⟩, a7⟩, a8⟩, a9⟩ := h
  exact ⟨⟨⟨⟨by omega, by omega, by omega, by omega, by omega, a6⟩, by omega⟩, by omega⟩, a9⟩
theorem same_drop {s s' : State} {locs : List Loc} {cells slots : Nat} (h : s.sameButNew s' locs cells slots) (hl : ∀ q ∈ locs, s.heap.size ≤ q.base) : s.sameButNew s' [] cells slots := by
  obtain ⟨h1, h2, h3, h4, h5, h6⟩ := h
  refine ⟨h1, h2, h3, h4, h5, fun a c hc => ?_⟩
  obtain ⟨c', e1, e2, e3, e4⟩ := h6 a c hc
  exact ⟨c', e1, e2, e3, fun i _ => e4 i fun hm => absurd (hl _ hm) (Nat.not_le_of_lt (Array.getElem?_eq_some_iff.mp hc).1)⟩
theorem eq_refs {args : Array Value} {s : State} {t1 t2 : Term} {a : Nat} (h : (Cond.eq t1 t2).before args s = true) (h1 : t1.eval args s none [] s = some (.ref a)) : t2.eval args s none [] s = some (.ref a) := by
  cases h2 : t2.eval args s none [] s with
  | none => simp [Cond.before, Cond.holds, Cond.value, h1, h2] at h
  | some w =>
    simp only [Cond.before, Cond.holds, Cond.value, h1, h2] at h
    cases w <;> simp_all
def fl1 : List Cond := flatC (Jvm.Cond.and given_1 narrow_1)
def tmS (i : Nat) : Term := if i = 0 then .string "AmberGrains$World" 38 else if i = 1 then .string "AmberGrains$Reader" 54 else if i = 2 then .string "AmberGrains$Reader" 63 else if i = 3 then .string "AmberGrains$Reader" 65 else if i = 4 then .string "AmberGrains$Reader" 67 else .string "AmberGrains$Reader" 80
abbrev tmA : Term := .static "AmberGrains$Voice" "ABOVE" "[I"
abbrev tmB : Term := .static "AmberGrains$Voice" "BODIES" "[I"
theorem f_a : ∀ j, j < 7 → Cond.eq (.elem tmA (.int (Int32.ofNat j))) (.int (tabA j)) ∈ fl1 := by decide +kernel
theorem f_b : ∀ j, j < 21 → Cond.eq (.elem tmB (.int (Int32.ofNat j))) (.int (tabB j)) ∈ fl1 := by decide +kernel
theorem f_ar : Cond.arrayOf tmA .int ∈ fl1 ∧ Cond.eq (.length tmA) (.int (Int32.ofNat 7)) ∈ fl1 ∧ Cond.arrayOf tmB .int ∈ fl1 ∧ Cond.eq (.length tmB) (.int (Int32.ofNat 21)) ∈ fl1 := by decide +kernel
theorem f_N : ∀ i, i < 6 → sLen.getD i 0 < 2 ^ 31 := by decide +kernel
theorem f_ex : ∀ i, i < 6 → Cond.exactly (tmS i) "java/lang/String" ∈ fl1 := by decide +kernel
theorem f_co : ∀ i, i < 6 → Cond.eq (.field (tmS i) "java/lang/String" "coder" "B") (.int 0) ∈ fl1 := by decide +kernel
theorem f_va : ∀ i, i < 6 → Cond.arrayOf (.field (tmS i) "java/lang/String" "value" "[B") .byte ∈ fl1 := by decide +kernel
theorem f_le : ∀ i, i < 6 → Cond.eq (.length (.field (tmS i) "java/lang/String" "value" "[B")) (.int (Int32.ofNat (sLen.getD i 0))) ∈ fl1 := by decide +kernel
theorem f_el : ∀ i, i < 6 → ∀ j, j < sLen.getD i 0 → Cond.eq (.elem (.field (tmS i) "java/lang/String" "value" "[B") (.int (Int32.ofNat j))) (.int ((sByt.getD i []).getD j 0)) ∈ fl1 := by decide +kernel
theorem f_ne : ∀ i, i < 6 → ∀ j, j < 6 → i ≠ j → (Cond.not (Cond.eq (tmS i) (tmS j)) ∈ fl1 ∨ Cond.not (Cond.eq (tmS j) (tmS i)) ∈ fl1) := by decide +kernel
theorem f_x : Cond.eq (.static "java/lang/String" "COMPACT_STRINGS" "Z") (.int 1) ∈ fl1 ∧ Cond.isRef (.static "jdk/internal/util/Preconditions" "SIOOBE_FORMATTER" "Ljava/util/function/BiFunction;") ∈ fl1 ∧ Cond.eq (.string "AmberGrains$World" 38) (.string "AmberGrains$Reader" 85) ∈ fl1 := by decide +kernel
section STS
variable {s : State} {as : Array Value}
theorem st_cls (hts : ∀ w ∈ TB, w.before as s = true) : ∃ D : Nat → ClassId × (Nat → Nat), ∀ c (q : vw_C), zcl[c]? = some q → u_Kn s q.1 q.2.1 q.2.2 (D c).1 (D c).2 := by
  suffices key : ∀ c, ∃ D : ClassId × (Nat → Nat), ∀ q : vw_C, zcl[c]? = some q → u_Kn s q.1 q.2.1 q.2.2 D.1 D.2 from Classical.axiomOfChoice key
  intro c
  rcases (by omega : c = 0 ∨ c = 1 ∨ c = 2 ∨ c = 3 ∨ c = 4 ∨ c = 5 ∨ c = 6 ∨ c = 7 ∨ 8 ≤ c) with rfl | rfl | rfl | rfl | rfl | rfl | rfl | rfl | hc
  · obtain ⟨cC, iS, hk⟩ := u_known hts inX0 (hts _ q177); exact ⟨(cC, iS), fun q hq => by cases hq; exact hk⟩
  · obtain ⟨cC, iS, hk⟩ := u_known hts inX1 (hts _ q160); exact ⟨(cC, iS), fun q hq => by cases hq; exact hk⟩
  · obtain ⟨cC, iS, hk⟩ := u_known hts inX2 (hts _ q558); exact ⟨(cC, iS), fun q hq => by cases hq; exact hk⟩
  · obtain ⟨cC, iS, hk⟩ := u_known hts inX3 (hts _ q231); exact ⟨(cC, iS), fun q hq => by cases hq; exact hk⟩
  · obtain ⟨cC, iS, hk⟩ := u_known hts inX4 (hts _ q208); exact ⟨(cC, iS), fun q hq => by cases hq; exact hk⟩
  · obtain ⟨cC, iS, hk⟩ := u_known hts inX5 (hts _ q81); exact ⟨(cC, iS), fun q hq => by cases hq; exact hk⟩
  · obtain ⟨cC, iS, hk⟩ := u_known hts inX6 (hts _ q73); exact ⟨(cC, iS), fun q hq => by cases hq; exact hk⟩
  · obtain ⟨cC, iS, hk⟩ := u_known hts inX7 (hts _ q781); exact ⟨(cC, iS), fun q hq => by cases hq; exact hk⟩
  · obtain ⟨cC, iS, hk⟩ := u_known hts inX0 (hts _ q177); exact ⟨(cC, iS), fun q hq => by rw [List.getElem?_eq_none (show zcl.length ≤ c from hc)] at hq; cases hq⟩
theorem ar_of {ty : FieldType} (h : (Cond.arrayClass ty).before as s = true) : ∃ cA kA comp, s.vm.findClass ("[" ++ ty.toString) = some cA ∧ s.vm.classes[cA]? = some kA ∧ kA.kind = .array comp ty := Cond.arrayClass_spec h
theorem st_arr (hts : ∀ w ∈ lw_tbl, w.before as s = true) : ∃ cA : Nat → ClassId, ∀ k, k < 5 → ArrOfT s (cA k) (ak k) ∧ va_RA s (cA k) (ak k) := by
  suffices key : ∀ k, ∃ c : ClassId, k < 5 → ArrOfT s c (ak k) ∧ va_RA s c (ak k) from Classical.axiomOfChoice key
  intro k
  obtain ⟨c0, k0, p0, a1, a2, a3⟩ := ar_of (ty := .int) (hts _ (List.mem_of_getElem? (i := 156) (by decide +kernel)))
  rcases (by omega : k = 0 ∨ k = 1 ∨ k = 2 ∨ k = 3 ∨ k = 4 ∨ 5 ≤ k) with rfl | rfl | rfl | rfl | rfl | hk
  · exact ⟨c0, fun _ => ⟨fun n z => ⟨fun k h => (by cases h), k0, a2, p0, a3⟩, a1⟩⟩
  · obtain ⟨c1, k1, p1, b1, b2, b3⟩ := ar_of (ty := .byte) (hts _ (List.mem_of_getElem? (i := 157) (by decide +kernel)))
    exact ⟨c1, fun _ => ⟨fun n z => ⟨fun k h => (by cases h), k1, b2, p1, b3⟩, b1⟩⟩
  · obtain ⟨c1, k1, p1, b1, b2, b3⟩ := ar_of (ty := .char) (hts _ (List.mem_of_getElem? (i := 874) (by decide +kernel)))
    exact ⟨c1, fun _ => ⟨fun n z => ⟨fun k h => (by cases h), k1, b2, p1, b3⟩, b1⟩⟩
  · obtain ⟨c1, k1, p1, b1, b2, b3⟩ := ar_of (ty := .long) (hts _ (List.mem_of_getElem? (i := 249) (by decide +kernel)))
    exact ⟨c1, fun _ => ⟨fun n z => ⟨fun k h => (by cases h), k1, b2, p1, b3⟩, b1⟩⟩
  · obtain ⟨p1, c1, k1, b1, -, b2, b3, b4⟩ := Cond.arrayOver_spec (args := as) (first := s) (o := none) (idx := []) (n := "AmberGrains$Tape") (hts _ (List.mem_of_getElem? (i := 206) (by decide +kernel)))
    exact ⟨c1, fun _ => ⟨fun n z => ⟨fun k h => (by cases h), k1, b2, p1, b3⟩, k1, p1, b2, b3, b1, b4⟩⟩
  · exact ⟨c0, fun h => absurd h (by omega)⟩
theorem st_of {b L : Nat} {xs : Nat → Int32} (hts : ∀ w ∈ lw_tbl, w.before as s = true) (hgv : (Jvm.Cond.and given_1 narrow_1).before as s = true) (hX : va_X b L xs s s.heap) (hL : L ≤ 3072) : ∃ G : GT, gb G = s.heap.size ∧ gL G = L ∧ gx G = xs ∧ glo G 0 = b ∧ St G s s.heap := by
  have hTB : ∀ w ∈ TB, w.before as s = true := fun w hw => hts w (tb_tbl w hw)
  have hs : ∀ c ∈ fl1, c.before as s = true := flat_of_before _ hgv
  have hA : ∀ a : Nat, a < s.heap.size → ¬ s.heap.size ≤ a := fun a ha => Nat.not_le_of_lt ha
  obtain ⟨D, hD⟩ := st_cls hTB
  obtain ⟨cA, hcA⟩ := st_arr hts
  obtain ⟨tA, eA, hTA⟩ := va_Tof (tm := tmA) (ty := .int) (N := 7) (f := fun j => .int (tabA j)) (A := fun q => s.heap.size ≤ q) (by decide) (hs _ f_ar.1) (va_eqt (hs _ f_ar.2.1)) (fun j hj => va_eqt (hs _ (f_a j hj))) hA
  obtain ⟨tB, eB, hTB2⟩ := va_Tof (tm := tmB) (ty := .int) (N := 21) (f := fun j => .int (tabB j)) (A := fun q => s.heap.size ≤ q) (by decide) (hs _ f_ar.2.2.1) (va_eqt (hs _ f_ar.2.2.2)) (fun j hj => va_eqt (hs _ (f_b j hj))) hA
  obtain ⟨adK, adV, ⟨hS, -⟩, hE⟩ := vk_Sof (N := 6) (tm := tmS) (len := sLen) (byt := sByt) (A := fun q => s.heap.size ≤ q) f_N (fun i hi => hs _ (f_ex i hi)) (fun i hi => hs _ (f_co i hi)) (fun i hi => hs _ (f_va i hi)) (fun i hi => hs _ (f_le i hi)) (fun i hi j hj => hs _ (f_el i hi j hj)) (fun i j hi hj hij => (f_ne i hi j hj hij).imp (fun h => hs _ h) (fun h => hs _ h)) hA
  have hF : va_Zq "jdk/internal/util/Preconditions" "SIOOBE_FORMATTER" "Ljava/util/function/BiFunction;" (fun q => s.heap.size ≤ q) s s.heap := va_Zqof (hts _ (List.mem_of_getElem? (i := 449) (by decide +kernel))) (hts _ (List.mem_of_getElem? (i := 68) (by decide +kernel))) (hs _ f_x.2.1) hA
  obtain ⟨tF, hF⟩ : ∃ tF : Nat, va_Z "jdk/internal/util/Preconditions" "SIOOBE_FORMATTER" "Ljava/util/function/BiFunction;" .null (fun q => s.heap.size ≤ q) s s.heap ∨ va_Z "jdk/internal/util/Preconditions" "SIOOBE_FORMATTER" "Ljava/util/function/BiFunction;" (.ref tF) (fun q => s.heap.size ≤ q) s s.heap := by
    rcases hF with z | ⟨t, z⟩
    · exact ⟨0, Or.inl z⟩
    · exact ⟨t, Or.inr z⟩
  have hR85 : (Term.string "AmberGrains$Reader" 85).eval as s none [] s = some (.ref (adK 0)) := eq_refs (hs _ f_x.2.2) (hE 0 (by decide))
  refine ⟨(s.heap.size, (fun i => if i = 0 then b else if i = 1 then tA else if i = 2 then tB else if i < 9 then adK (i - 3) else if i < 15 then adV (i - 9) else tF), (fun c => (D c).1, fun c => (D c).2), cA, L, xs), rfl, rfl, rfl, rfl, ?_⟩
  refine ⟨⟨fun c q hq => hD c q hq, fun k q hq => ?_⟩, fun i k n f hi hz => ?_, va_Zof (hts _ (List.mem_of_getElem? (i := 745) (by decide +kernel))) (hts _ (List.mem_of_getElem? (i := 60) (by decide +kernel))) eA hA, va_Zof (hts _ (List.mem_of_getElem? (i := 728) (by decide +kernel))) (hts _ (List.mem_of_getElem? (i := 60) (by decide +kernel))) eB hA, va_Zof (hts _ (List.mem_of_getElem? (i := 96) (by decide +kernel))) (hts _ (List.mem_of_getElem? (i := 57) (by decide +kernel))) (va_eqi (hs _ f_x.1)) hA, fun i hi => ?_, ?_, ?_, ?_, va_AO.of (hts _ (List.mem_of_getElem? (i := 206) (by decide +kernel))), hF⟩
  · rcases (by have := (List.getElem?_eq_some_iff.mp hq).1; simp only [gtys, List.length_cons, List.length_nil] at this; omega : k = 0 ∨ k = 1 ∨ k = 2 ∨ k = 3 ∨ k = 4) with rfl | rfl | rfl | rfl | rfl <;> cases hq
    · exact hcA 0 (by decide)
    · exact hcA 1 (by decide)
    · exact hcA 2 (by decide)
    · exact hcA 3 (by decide)
    · exact hcA 4 (by decide)
  · rcases (by omega : i = 0 ∨ i = 1 ∨ i = 2 ∨ (3 ≤ i ∧ i < 9) ∨ (9 ≤ i ∧ i < 15) ∨ i = 15) with rfl | rfl | rfl | hc | hc | rfl
    · cases hz
      obtain ⟨scr, h1, h2, h3, h4, h5⟩ := hX
      exact ⟨scr, h1, h2, h3, Nat.le_of_eq h4.symm, by rw [h4]; rfl, h5, hA _ (Array.getElem?_eq_some_iff.mp h1).1⟩
    · cases hz; exact hTA
    · cases hz; exact hTB2
    · unfold zlow at hz
      rw [if_neg (by omega), if_neg (by omega), if_neg (by omega), if_pos hc.2] at hz
      cases hz
    · unfold zlow at hz
      rw [if_neg (by omega), if_neg (by omega), if_neg (by omega), if_neg (by omega), if_pos hc.2] at hz
      cases hz
      have e : glo (s.heap.size, (fun i => if i = 0 then b else if i = 1 then tA else if i = 2 then tB else if i < 9 then adK (i - 3) else if i < 15 then adV (i - 9) else tF), (fun c => (D c).1, fun c => (D c).2), cA, L, xs) i = adV (i - 9) := by
        show (if i = 0 then b else if i = 1 then tA else if i = 2 then tB else if i < 9 then adK (i - 3) else if i < 15 then adV (i - 9) else tF) = _
        rw [if_neg (by omega), if_neg (by omega), if_neg (by omega), if_neg (by omega), if_pos hc.2]
      rw [e]
      exact (hS (i - 9) (by omega)).2.2.2
    · cases hz
  · have e1 : (if 3 + i = 0 then b else if 3 + i = 1 then tA else if 3 + i = 2 then tB else if 3 + i < 9 then adK (3 + i - 3) else if 3 + i < 15 then adV (3 + i - 9) else tF) = adK i := by
      rw [if_neg (by omega), if_neg (by omega), if_neg (by omega), if_pos (by omega), Nat.add_sub_cancel_left]
    have e2 : (if 9 + i = 0 then b else if 9 + i = 1 then tA else if 9 + i = 2 then tB else if 9 + i < 9 then adK (9 + i - 3) else if 9 + i < 15 then adV (9 + i - 9) else tF) = adV i := by
      rw [if_neg (by omega), if_neg (by omega), if_neg (by omega), if_neg (by omega), if_pos (by omega), Nat.add_sub_cancel_left]
    obtain ⟨s1, s2, s3, s4⟩ := hS i hi
    refine ⟨?_, ?_, ?_⟩
    · show va_O "java/lang/String" (if 3 + i = 0 then b else if 3 + i = 1 then tA else if 3 + i = 2 then tB else if 3 + i < 9 then adK (3 + i - 3) else if 3 + i < 15 then adV (3 + i - 9) else tF) _ s s.heap
      rw [e1]; exact s1
    · show va_OF "java/lang/String" "coder" "B" (.int 0) (if 3 + i = 0 then b else if 3 + i = 1 then tA else if 3 + i = 2 then tB else if 3 + i < 9 then adK (3 + i - 3) else if 3 + i < 15 then adV (3 + i - 9) else tF) _ s s.heap
      rw [e1]; exact s2
    · show va_OF "java/lang/String" "value" "[B" (.ref (if 9 + i = 0 then b else if 9 + i = 1 then tA else if 9 + i = 2 then tB else if 9 + i < 9 then adK (9 + i - 3) else if 9 + i < 15 then adV (9 + i - 9) else tF)) (if 3 + i = 0 then b else if 3 + i = 1 then tA else if 3 + i = 2 then tB else if 3 + i < 9 then adK (3 + i - 3) else if 3 + i < 15 then adV (3 + i - 9) else tF) _ s s.heap
      rw [e1, e2]; exact s3
  · refine List.forall_mem_cons.mpr ⟨?_, List.forall_mem_cons.mpr ⟨?_, List.forall_mem_cons.mpr ⟨?_, List.forall_mem_cons.mpr ⟨?_, List.forall_mem_cons.mpr ⟨?_, List.forall_mem_cons.mpr ⟨?_, List.forall_mem_cons.mpr ⟨?_, fun _ h => absurd h List.not_mem_nil⟩⟩⟩⟩⟩⟩⟩
    · exact vk_R.of (hts _ (List.mem_of_getElem? (i := 86) (by decide +kernel))) (hE 0 (by decide))
    · exact vk_R.of (hts _ (List.mem_of_getElem? (i := 492) (by decide +kernel))) (hR85)
    · exact vk_R.of (hts _ (List.mem_of_getElem? (i := 428) (by decide +kernel))) (hE 1 (by decide))
    · exact vk_R.of (hts _ (List.mem_of_getElem? (i := 476) (by decide +kernel))) (hE 2 (by decide))
    · exact vk_R.of (hts _ (List.mem_of_getElem? (i := 477) (by decide +kernel))) (hE 3 (by decide))
    · exact vk_R.of (hts _ (List.mem_of_getElem? (i := 478) (by decide +kernel))) (hE 4 (by decide))
    · exact vk_R.of (hts _ (List.mem_of_getElem? (i := 487) (by decide +kernel))) (hE 5 (by decide))
  · refine List.forall_mem_cons.mpr ⟨?_, List.forall_mem_cons.mpr ⟨?_, List.forall_mem_cons.mpr ⟨?_, List.forall_mem_cons.mpr ⟨?_, List.forall_mem_cons.mpr ⟨?_, List.forall_mem_cons.mpr ⟨?_, List.forall_mem_cons.mpr ⟨?_, fun _ h => absurd h List.not_mem_nil⟩⟩⟩⟩⟩⟩⟩
    · exact va_Nw.of rfl (hts _ (List.mem_of_getElem? (i := 168) (by decide +kernel)))
    · exact va_Nw.of rfl (hts _ (List.mem_of_getElem? (i := 185) (by decide +kernel)))
    · exact va_Nw.of rfl (hts _ (List.mem_of_getElem? (i := 214) (by decide +kernel)))
    · exact va_Nw.of rfl (hts _ (List.mem_of_getElem? (i := 216) (by decide +kernel)))
    · exact va_Nw.of rfl (hts _ (List.mem_of_getElem? (i := 237) (by decide +kernel)))
    · exact va_Nw.of rfl (hts _ (List.mem_of_getElem? (i := 239) (by decide +kernel)))
    · exact va_Nw.of rfl (hts _ (List.mem_of_getElem? (i := 241) (by decide +kernel)))
  · refine List.forall_mem_cons.mpr ⟨?_, List.forall_mem_cons.mpr ⟨?_, List.forall_mem_cons.mpr ⟨?_, fun _ h => absurd h List.not_mem_nil⟩⟩⟩
    · exact va_Nw.of rfl (hts _ (List.mem_of_getElem? (i := 178) (by decide +kernel)))
    · exact va_Nw.of rfl (hts _ (List.mem_of_getElem? (i := 209) (by decide +kernel)))
    · exact va_Nw.of rfl (hts _ (List.mem_of_getElem? (i := 232) (by decide +kernel)))
end STS
/-- from the entry, for every script of at most 3072 ints, the law comes to its end with true -/
theorem whole_start {p : Program} {e : Env} {s : State} {m : MethodId} {below : List Frame} {meth : Method} {c : Code} (l : Launch) (hflags : l.flags = flags0) {b L : Nat} {xs : Nat → Int32} (hL : L ≤ 3072) (C0 : lw_At p s m meth c b L xs) : W p l e room_1 s m #[Value.ref b] below meth c s.heap [] 0 0 (lw_Z below #[Value.ref b] s) (entryFrame m ([Value.ref b] : List Value).toArray 4) := by
  obtain ⟨hexec, hcode, hret, hml, hown, hts, hX, hbl, hlocks, hgv⟩ := C0
  obtain ⟨G, g1, g2, g3, g4, hSt⟩ := st_of hts hgv hX hL
  intro T hT X
  have hr := X.room
  have hR : HR G (0, fun i => if i < 16 then zlow G i else zdead) s.heap := ⟨by rw [g1]; rfl, fun i hi => absurd hi (Nat.not_lt_zero i), fun i hi => if_neg (Nat.not_lt_of_le (by simpa using hi)), fun i hi => if_pos hi⟩
  have hC : Cx G mL p s m #[Value.ref b] meth c := ⟨hexec, hcode, hml, hret, hlocks, (fun z => by cases z), hown, fun w hw => hts w (tb_tbl w hw), hSt, by rw [g1]; exact Nat.le_refl _⟩
  have hl := lv_entry [Value.ref b] (n := 4) (Nat.le_of_ble_eq_true rfl)
  have e0 : zlv G 0 [some (.ref 0), none, none, none] = lv_args 0 [Value.ref b] := by
    show [(0, Value.ref (zad G 0))] = _
    rw [show zad G 0 = b from g4]
    rfl
  rw [← e0] at hl
  rw [lg_entry_eq]
  have hF : zFin l G mL (rmd 60 600000 7302250) p e s m #[Value.ref b] below meth c (fun r _ => r = some (.int 1)) (lw_Z below #[Value.ref b] s) := by
    intro v h H locs pc ls i hq hR' hS' hd hz T' hT' X'
    subst hq
    obtain ⟨rfl, -⟩ : i = .ireturn ∧ _ := hz
    have X2 : Stand p l e room_1 s m #[Value.ref b] below meth c T' [] 600000 7302250 := { X' with room := hr, same := same_drop X'.same fun q hq => (by have := hS'.2.2 q hq; unfold zW at this; rw [g1] at this; exact this) }
    exact lw_ret hexec hcode hret hlocks hd T' hT' X2
  have K := L_start (l := l) (G := G) (d := 60) (mc := 600000) (ms := 7302250) (h := (0, fun i => if i < 16 then zlow G i else zdead)) (by rw [g2]; exact hL) (by decide) (by decide) (by decide) rfl p e s m #[Value.ref b] below meth c s.heap [] _ (lw_Z below #[Value.ref b] s) hC hR va_S.rf hl hF
  exact K T hT { X with room := hasRoom_mono hr (by decide) (by decide) (by decide) (by decide) }
set_option maxHeartbeats 4000000 in
theorem lw_walk (l : Launch) (hflags : l.flags = flags0) (b : Addr) (xs : List Int32) : MetFree l x (headSpec (Jvm.Cond.code x code maxLocals ret :: tables_1) room_1) (lw_P b xs) (fun _ _ _ _ _ => True) lw_Q := by
  refine MetFree.of_bodyS (code := code) (maxLocals := maxLocals) (ret := ret) (by decide) ?_ ?_
  · intro args s m h hn
    obtain ⟨meth, c, h1, h2, h3, h4, h5, h6, -, -⟩ := Cond.code_spec hn (atoms_spec (ws := Jvm.Cond.code x code maxLocals ret :: tables_1) h _ List.mem_cons_self)
    exact ⟨meth, c, h1, h2, h3, h4, h5, h6⟩
  · intro p e s m args below meth c s₁ B hml0 hP _
    obtain ⟨rfl, hx, hbd, hgv⟩ := hP
    obtain ⟨scr, harrAt, hlist, hof, hsmall⟩ := hx
    obtain ⟨hcb, hkn, -, -⟩ := State.arrayAt?_spec harrAt
    have hown : s.vm.findClass R_law = some m.cls := findClass_of_methodNamed B.named
    have hts0 : ∀ c ∈ (Jvm.Cond.code x code maxLocals ret :: tables_1), c.before #[Value.ref b] s = true := atoms_spec (ws := Jvm.Cond.code x code maxLocals ret :: tables_1) B.pre
    have hts : ∀ w ∈ lw_tbl, w.before #[Value.ref b] s = true := k2_hts_sels lw_privs (fun w hw => hts0 w (List.mem_cons_of_mem _ hw)) lw_privs_ok
    have hml : c.maxLocals = 4 := B.maxLocals_eq (hts0 _ List.mem_cons_self)
    have X₀ : Stand p l e room_1 s m #[Value.ref b] below meth c s₁ [] 0 0 := Stand.of_body B
    have hh0 : s₁.heap = s.heap := by rw [B.state]; rfl
    have hsz : scr.slots.size = xs.length := by rw [← Array.length_toList, hlist, List.length_map]
    have hval : ∀ j : Nat, j < xs.length → scr.slots[j]? = some (.int (xs.getD j 0)) := fun j hj => by
      rw [← Array.getElem?_toList, hlist]
      simp [hj]
    have hbl : b < s.heap.size := (Array.getElem?_eq_some_iff.mp hcb).1
    have hX : va_X b xs.length (fun j => xs.getD j 0) s s.heap := ⟨scr, hcb, hof, hkn, hsz, hval⟩
    have K : W p l e room_1 s m #[Value.ref b] below meth c s₁.heap [] 0 0 (lw_Z below #[Value.ref b] s) (entryFrame m ([Value.ref b] : List Value).toArray 4) := by
      rw [hh0]
      exact whole_start l hflags hbd ⟨B.exec, B.bytes, B.returns, hml, hown, hts, hX, hbl, B.notSynchronized, hgv⟩
    obtain ⟨t, a1, o, b1, b2, b3⟩ := K s₁ rfl X₀
    exact ⟨t, o, a1, b1, b2, b3⟩
theorem lw_pre_spec {args : Array Value} {s : State} (h : (Jvm.Cond.and given_1 narrow_1).before args s = true) (hr : rest_1_c.before args s = true) : ∃ (b : Addr) (xs : List Int32), lw_P b xs args s := by
  have hs := flat_of_before _ h
  have hq := flat_of_before _ hr
  have hc : (Cond.count 1).before args s = true := hs _ (by decide +kernel)
  have harr : (Cond.arrayOf (.arg 0) .int).before args s = true := hs _ (by decide +kernel)
  have hle : (Cond.le (.length (.arg 0)) (.int 3072)).before args s = true := hs _ (by decide +kernel)
  have hlen : (Cond.isInt (.length (.arg 0))).before args s = true := hq _ (by decide +kernel)
  have hall : (Cond.all (.arg 0) (.isInt (.elem (.arg 0) (.index 0)))).before args s = true := hq _ (by decide +kernel)
  obtain ⟨b, xs, hb, hx⟩ := State.ints_of_pre rfl harr hlen hall
  have hsm : xs.length < 2 ^ 31 := hx.choose_spec.2.2.2
  have hev : (Term.length (.arg 0)).eval args s none [] s = some (.int xs.length.toInt32) := hx.length_eval hb
  have hv := Cond.le_ints hev (show (Term.int 3072).eval args s none [] s = some (.int 3072) from rfl)
  have hd : xs.length.toInt32 ≤ 3072 := by
    simpa [Cond.before, Cond.holds, hv] using hle
  have hN : xs.length ≤ 3072 := (Int32.ofNat_le_ofNat hsm (by decide)).mp (show Int32.ofNat xs.length ≤ Int32.ofNat 3072 from hd)
  exact ⟨b, xs, Cond.one_arg hc (show args[0]? = some (.ref b) from hb), hx, hN, h⟩
theorem lw_comes (l : Launch) (hflags : l.flags = flags0) : Comes l x (Jvm.Cond.code x code maxLocals ret :: tables_1) room_1 (fun tb e args s => Calls_1 tb e args s ∧ rest_1 tb e args s ∧ Pre_1 tb e args s)
    (fun _ _ args s o t => lw_Q args s o t) := by
  intro p e ha hc hk s m args below hf hfit hheap happ hpre
  obtain ⟨b, xs, hP⟩ := lw_pre_spec hpre.2.2 hpre.2.1
  obtain ⟨k, o, h1, h2, h3, hQ⟩ := lw_walk l hflags b xs p e ha hc hk s m args below hf ((Spec.applies_iff_loose hf).mp happ).1 hP trivial
  exact ⟨k, o, h1, h2, h3, hQ⟩
theorem lw_frame {s t : State} {o : Outcome} {args : Array Value} (h : Framed s o t [] 600000 7302250) :
    Framed s o t (fieldLocs frame_1_writes args s ++ arrayLocs frame_1_arrays args s ++ staticLocs frame_1_statics s) 600000 7302250 := h
theorem lw_limb (L : Cond) (hL : ∀ (args : Array Value) (s t : State), L.after args s (.returned (some (.int 1))) t = true) :
    ArmFor flags0 classFile x code maxLocals ret World_1 tables_1 room_1 Calls_1 rest_1 Pre_1
      (fun tb e a s o t => postC L tb e a s o t ∧ Framed s o t (fieldLocs frame_1_writes a s ++ arrayLocs frame_1_arrays a s ++ staticLocs frame_1_statics s) 600000 7302250) := by
  intro l hflags _ _ p e ha hc hk s m args below hf hfit hheap happ hpre
  obtain ⟨k, o, h1, h2, h3, rfl, hF⟩ := lw_comes l hflags p e ha hc hk s m args below hf hfit hheap happ hpre
  exact ⟨k, _, h1, h2, h3, hL args s _, lw_frame hF⟩
theorem i_vc : Claimed_1_1 ∧ Claimed_1_2 := ⟨lw_limb limb_1_1 (fun args s t => by simp [limb_1_1, Cond.after, Cond.holds, Cond.value]), lw_limb limb_1_2 (fun args s t => Cond.after_iff.mpr (by
  first | (rw [show limb_1_2 = Cond.eq .result (.int 1) from rfl, Cond.eq_ints (x := 1) (y := 1) rfl rfl]; simp; done) | (simp [limb_1_2, Cond.value, Term.eval]; done)))⟩
