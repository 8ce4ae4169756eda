/-! The abstract heap of a run: our cells by their numbers (16, 17 ..: in the order in which they were made), what stood before the law by numbers below 16 (0 the script; 1, 2 static arrays; 3 .. 8 texts; 9 .. 14 their bytes). A reference is such a number. -/
abbrev zE : Type := (Nat × vp_A) ⊕ (Nat × List Value)
abbrev Hp : Type := Nat × (Nat → zE)
/-- where our cells begin; where the sixteen stand; classes and slots; classes of arrays; how long the script is, and what it holds -/
abbrev GT : Type := Nat × (Nat → Nat) × va_G × (Nat → ClassId) × Nat × (Nat → Int32)
def gb (G : GT) : Nat := G.1
def glo (G : GT) : Nat → Nat := G.2.1
def gD (G : GT) : va_G := G.2.2.1
def gC (G : GT) : Nat → ClassId := G.2.2.2.1
def gL (G : GT) : Nat := G.2.2.2.2.1
def gx (G : GT) : Nat → Int32 := G.2.2.2.2.2
def zad (G : GT) (i : Nat) : Nat := if i < 16 then glo G i else gb G + (i - 16)
def zV (G : GT) : Value → Value
  | .ref i => .ref (zad G i)
  | .int x => .int x
  | .long x => .long x
  | .float x => .float x
  | .double x => .double x
  | .null => .null
  | .retAddr x => .retAddr x
def zA (G : GT) (a : vp_A) : vp_A := (a.1, match a.2 with
  | .inl f => .inl f
  | .inr (.inl f) => .inr (.inl f)
  | .inr (.inr (.inl f)) => .inr (.inr (.inl f))
  | .inr (.inr (.inr (.inl f))) => .inr (.inr (.inr (.inl f)))
  | .inr (.inr (.inr (.inr f))) => .inr (.inr (.inr (.inr (fun j => (f j).map (zad G))))))
def zC (G : GT) (e : zE) : va_E := match e with
  | .inl (k, a) => .inl (gC G k, zA G a)
  | .inr (c, fs) => .inr (c, fs.map (zV G))
def ak : Nat → FieldType
  | 0 => .int
  | 1 => .byte
  | 2 => .char
  | 3 => .long
  | _ => .object "AmberGrains$Tape"
def gtys (G : GT) : List (ClassId × FieldType) := [(gC G 0, ak 0), (gC G 1, ak 1), (gC G 2, ak 2), (gC G 3, ak 3), (gC G 4, ak 4)]
abbrev zcl : List vw_C := [(RX0, TX0, 7), (RX1, TX1, 3), (RX2, TX2, 2), (RX3, TX3, 3), (RX4, TX4, 5), (RX5, TX5, 15), (RX6, TX6, 14), (RX7, TX7, 28)]
def tabA (j : Nat) : Int32 := [0, 0, 0, 0, 1, 2, 3].getD j 0
def tabB (j : Nat) : Int32 := [10, 11, 12, 10, 20, 12, 30, 11, 12, 10, 11, 40, 50, 51, 12, 30, 11, 60, 71, 70, 40].getD j 0
def sLen : List Nat := [6, 5, 5, 6, 1, 1]
def sByt : List (List Int32) := [[112, 107, 118, 119, 97, 100], [114, 111, 111, 109, 32], [115, 111, 117, 114, 32], [115, 119, 101, 101, 116, 32], [32], [41]]
def zdead : zE := .inr (99, [])
def zlow (G : GT) (i : Nat) : zE := if i = 0 then .inl (0, (gL G, .inl (gx G))) else if i = 1 then .inl (0, (7, .inl tabA)) else if i = 2 then .inl (0, (21, .inl tabB)) else if i < 9 then .inr (100 + (i - 3), []) else if i < 15 then .inl (1, (sLen.getD (i - 9) 0, .inl (fun j => (sByt.getD (i - 9) []).getD j 0))) else zdead
/-- what a method may change -/
def zW (G : GT) : Nat → Prop := fun q => gb G ≤ q
def HR (G : GT) (h : Hp) (H : Heap) : Prop := H.size = gb G + h.1 ∧ (∀ i, i < h.1 → va_at (gD G) zcl (gb G + i, zC G (h.2 (16 + i))) H) ∧ (∀ i, h.1 + 16 ≤ i → h.2 i = zdead) ∧ ∀ i, i < 16 → h.2 i = zlow G i
def zstr : List (String × Nat × String × Nat) := [("AmberGrains$World", 38, "pkvwad", 3), ("AmberGrains$Reader", 85, "pkvwad", 3), ("AmberGrains$Reader", 54, "room ", 4), ("AmberGrains$Reader", 63, "sour ", 5), ("AmberGrains$Reader", 65, "sweet ", 6), ("AmberGrains$Reader", 67, " ", 7), ("AmberGrains$Reader", 80, ")", 8)]
def znF : List (Nat × String × String × String) := [(201, "AmberGrains$Rows", "size", "I"), (240, "AmberGrains$Reader", "length", "I"), (234, "AmberGrains$Voice", "kept", "[I"), (224, "AmberGrains$Voice", "ran", "I"), (217, "AmberGrains$Tape", "items", "[J"), (213, "AmberGrains$Tape", "sort", "I"), (216, "AmberGrains$Tape", "size", "I")]
def znM : List (Nat × MethodName) := [(55, yX0_init), (72, yX4_init), (77, yX3_init)]
/-- what stands from the law's start on: classes, static arrays, texts -/
def St (G : GT) (U : State) (H : Heap) : Prop :=
  va_K (gD G) zcl (gtys G) U ∧
  (∀ i k n f, i < 16 → zlow G i = .inl (k, (n, .inl f)) → va_T (ak k) (glo G i) n (fun j => .int (f j)) (zW G) U H) ∧
  va_Z "AmberGrains$Voice" "ABOVE" "[I" (.ref (glo G 1)) (zW G) U H ∧
  va_Z "AmberGrains$Voice" "BODIES" "[I" (.ref (glo G 2)) (zW G) U H ∧
  va_Z "java/lang/String" "COMPACT_STRINGS" "Z" (.int 1) (zW G) U H ∧
  (∀ i, i < 6 → va_O "java/lang/String" (glo G (3 + i)) (zW G) U H ∧ va_OF "java/lang/String" "coder" "B" (.int 0) (glo G (3 + i)) (zW G) U H ∧ va_OF "java/lang/String" "value" "[B" (.ref (glo G (9 + i))) (glo G (3 + i)) (zW G) U H) ∧
  (∀ q ∈ zstr, vk_R q.1 q.2.1 q.2.2.1 (glo G q.2.2.2) U) ∧
  (∀ q ∈ znF, va_Nw (.fieldLinkNest "AmberGrains" q.1 q.2.1 q.2.2.1 q.2.2.2 "AmberGrains") U) ∧
  (∀ q ∈ znM, va_Nw (.methodLinkNest "AmberGrains" q.1 q.2 "AmberGrains") U) ∧
  va_AO "AmberGrains$Tape" U ∧
  (va_Z "jdk/internal/util/Preconditions" "SIOOBE_FORMATTER" "Ljava/util/function/BiFunction;" .null (zW G) U H ∨ va_Z "jdk/internal/util/Preconditions" "SIOOBE_FORMATTER" "Ljava/util/function/BiFunction;" (.ref (glo G 15)) (zW G) U H)
theorem St.warm {G : GT} {s U : State} {H H1 : Heap} (h : St G s H) (hW : s.WarmedH U.vm) (hq : ∀ a : Nat, a < H.size → ¬ zW G a → H1[a]? = H[a]?) : St G U H1 := by
  obtain ⟨h1, h2, h3, h4, h5, h6, h7, h8, h9, h10, h11⟩ := h
  have hv := hW.alike
  exact ⟨va_K.moved hv h1, fun i k n f hi e => (va_T.moved hv (h2 i k n f hi e)).kept hq, (va_Z.moved hv h3).kept hq, (va_Z.moved hv h4).kept hq, (va_Z.moved hv h5).kept hq,
    fun i hi => ⟨(va_O.moved hv (h6 i hi).1).kept hq, (va_OF.moved hv (h6 i hi).2.1).kept hq, (va_OF.moved hv (h6 i hi).2.2).kept hq⟩, fun q hq => vk_R.warm hW (h7 q hq), fun q hq => va_Nw.warmF hW (h8 q hq), fun q hq => va_Nw.warmM hW (h9 q hq), va_AO.moved hv h10, h11.elim (fun z => Or.inl ((va_Z.moved hv z).kept hq)) (fun z => Or.inr ((va_Z.moved hv z).kept hq))⟩
theorem St.call {G : GT} {U : State} (g : JFrame) (mk : MethodId) (a : Array Value) (h : St G U U.heap) : St G (U.calling g mk a) (U.calling g mk a).heap := by
  obtain ⟨h1, h2, h3, h4, h5, h6, h7, h8, h9, h10, h11⟩ := h
  have hv : U.vm.Alike (U.calling g mk a).vm := Vm.Alike.refl U.vm
  exact ⟨va_K.moved hv h1, fun i k n f hi e => va_T.moved hv (h2 i k n f hi e), va_Z.moved hv h3, va_Z.moved hv h4, va_Z.moved hv h5,
    fun i hi => ⟨va_O.moved hv (h6 i hi).1, va_OF.moved hv (h6 i hi).2.1, va_OF.moved hv (h6 i hi).2.2⟩, fun q hq => vk_R.same (u := U) rfl (h7 q hq), fun q hq => va_Nw.same (u := U) rfl rfl (h8 q hq), fun q hq => va_Nw.same (u := U) rfl rfl (h9 q hq), va_AO.moved hv h10, h11.elim (fun z => Or.inl (va_Z.moved hv z)) (fun z => Or.inr (va_Z.moved hv z))⟩
/-- a method: its class, its bytes, its locals, what it returns, whether it makes -/
abbrev MT : Type := String × ByteArray × Nat × Option FieldType × Bool
def Cx (G : GT) (M : MT) (p : Program) (s : State) (m : MethodId) (args : Array Value) (meth : Method) (c : Code) : Prop :=
  p.tables.exec = Jvm.exec ∧ c.code = M.2.1 ∧ c.maxLocals = M.2.2.1 ∧ meth.sig.returnType = M.2.2.2.1 ∧ meth.locks = false ∧ (M.2.2.2.2 = true → meth.name = "<init>") ∧ s.vm.findClass M.1 = some m.cls ∧ (∀ w ∈ TB, w.before args s = true) ∧ St G s s.heap ∧ gb G ≤ s.heap.size
abbrev rmd (d mc ms : Nat) : Room := { frames := d, cells := mc, slots := ms, locals := 64 * d }
/-- the instruction by which a value is given back -/
def zri : Option Value → Option FieldType → Instr → Prop
  | none, none, i => i = .return_
  | some (.int x), some ty, i => i = .ireturn ∧ narrow ty (.int x) = .int x
  | some (.long _), some ty, i => i = .lreturn ∧ ty = .long
  | some (.ref _), some ty, i => i = .areturn ∧ ty.isReference = true
  | some .null, some ty, i => i = .areturn ∧ ty.isReference = true
  | _, _, _ => False
/-- the locals: by their numbers, what is known of them -/
abbrev LV : Type := List (Option Value)
def zlv (G : GT) : Nat → LV → List (Nat × Value)
  | _, [] => []
  | n, none :: t => zlv G (n + 1) t
  | n, some v :: t => (n, zV G v) :: zlv G (n + 1) t
/-- at the end: from any world of the post, the instruction that gives back goes to Z -/
def zFin (l : Launch) (G : GT) (M : MT) (R : Room) (p : Program) (e : Env) (s : State) (m : MethodId) (args : Array Value) (below : List Frame) (meth : Method) (c : Code) (Q : Option Value → Hp → Prop) (Z : State → Prop) : Prop :=
  ∀ (v : Option Value) (h : Hp) (H : Heap) (locs : List Loc) (pc : Nat) (ls : Array Slot) (i : Instr), Q v h → HR G h H → va_S (zW G) s.heap H locs → decode M.2.1 pc = .ok (i, 1) → zri v M.2.2.2.1 i →
    W p l e R s m args below meth c H locs R.cells R.slots Z (F0 m pc ls ((v.map (zV G)).toList))
/-- what a walk has to show at pc: with any machine behind it, the end is reached -/
def AW (l : Launch) (G : GT) (M : MT) (d mc ms : Nat) (Q : Option Value → Hp → Prop) (k n : Nat) (h : Hp) (lv : LV) (st : List Value) (pc : Nat) : Prop :=
  ∀ (p : Program) (e : Env) (s : State) (m : MethodId) (args : Array Value) (below : List Frame) (meth : Method) (c : Code) (H : Heap) (locs : List Loc) (ls : Array Slot) (Z : State → Prop),
    Cx G M p s m args meth c → HR G h H → va_S (zW G) s.heap H locs → lv_has ls M.2.2.1 (zlv G 0 lv) → zFin l G M (rmd d mc ms) p e s m args below meth c Q Z →
    W p l e (rmd d mc ms) s m args below meth c H locs k n Z (F0 m pc ls (st.map (zV G)))
/-- a contract: at depth d, making mc cells of ms slots -/
def Ct (l : Launch) (G : GT) (M : MT) (y : MethodName) (d mc ms : Nat) (as : List Value) (h : Hp) (Q : Option Value → Hp → Prop) : Prop :=
  Met l y (.code y M.2.1 M.2.2.1 M.2.2.2.1 :: TB) (rmd d mc ms) (va_Pc (as.map (zV G)) (fun U => St G U U.heap ∧ HR G h U.heap ∧ gb G ≤ U.heap.size))
    (fun _ st oc t => (∃ (v : Option Value) (h' : Hp), oc = .returned (v.map (zV G)) ∧ Q v h' ∧ HR G h' t.heap) ∧ va_F (zW G) st t) mc ms (zW G)
def hset (h : Hp) (a : Nat) (e : zE) : Hp := (h.1, fun x => if x = a then e else h.2 x)
def hnew (h : Hp) (e : zE) : Hp := (h.1 + 1, fun x => if x = h.1 + 16 then e else h.2 x)
theorem zlv_mem {G : GT} : ∀ (lv : LV) (n i : Nat) (v : Value), lv[i]? = some (some v) → (n + i, zV G v) ∈ zlv G n lv
  | [], _, _, _, h => by simp at h
  | x :: t, n, 0, v, h => by
    simp only [List.getElem?_cons_zero, Option.some.injEq] at h
    subst h
    exact List.mem_cons_self
  | none :: t, n, i + 1, v, h => by
    rw [List.getElem?_cons_succ] at h
    have h2 := zlv_mem (G := G) t (n + 1) i v h
    rw [show n + (i + 1) = n + 1 + i by omega]
    exact h2
  | some y :: t, n, i + 1, v, h => by
    rw [List.getElem?_cons_succ] at h
    have h2 := zlv_mem (G := G) t (n + 1) i v h
    rw [show n + (i + 1) = n + 1 + i by omega]
    exact List.mem_cons_of_mem _ h2
theorem zlv_at {G : GT} {ls : Array Slot} {nL : Nat} {lv : LV} (h : lv_has ls nL (zlv G 0 lv)) {i : Nat} {v : Value} (hi : lv[i]? = some (some v)) : ls[i]? = some (.val (zV G v)) := by
  have h2 := h.2.2 _ (zlv_mem (G := G) lv 0 i v hi)
  rwa [Nat.zero_add] at h2
def zcut : Option Value → Option Value
  | some (.long _) => none
  | some (.double _) => none
  | x => x
/-- a value of one slot is laid at i -/
def zst : LV → Nat → Value → LV
  | [], _, _ => []
  | _ :: t, 0, v => some v :: t
  | x :: t, 1, v => zcut x :: zst t 0 v
  | x :: t, i + 2, v => x :: zst t (i + 1) v
/-- a value of two slots -/
def zst2 : LV → Nat → Value → LV
  | [], _, _ => []
  | [_], 0, _ => [none]
  | _ :: _ :: t, 0, v => some v :: none :: t
  | x :: t, 1, v => zcut x :: zst2 t 0 v
  | x :: t, i + 2, v => x :: zst2 t (i + 1) v
theorem zV_cat (G : GT) (v : Value) : (zV G v).category = v.category := by cases v <;> rfl
theorem zlv_ge {G : GT} : ∀ (lv : LV) (n : Nat) (q : Nat × Value), q ∈ zlv G n lv → n ≤ q.1
  | [], _, _, h => by cases h
  | none :: t, n, q, h => Nat.le_trans (Nat.le_succ n) (zlv_ge t (n + 1) q h)
  | some v :: t, n, q, h => by
    rcases List.mem_cons.mp h with rfl | h
    · exact Nat.le_refl _
    · exact Nat.le_trans (Nat.le_succ n) (zlv_ge t (n + 1) q h)
theorem zlv_cut {G : GT} (x : Option Value) (t : LV) (n : Nat) (q : Nat × Value) (h : q ∈ zlv G n (zcut x :: t)) : q ∈ zlv G (n + 1) t ∨ (q.1 = n ∧ ¬ q.2.category = 2 ∧ q ∈ zlv G n (x :: t)) := by
  cases x with
  | none => exact Or.inl h
  | some v =>
    cases v with
    | long y => exact Or.inl h
    | double y => exact Or.inl h
    | _ =>
      rcases List.mem_cons.mp h with rfl | h
      · exact Or.inr ⟨rfl, by simp [zV, Value.category], List.mem_cons_self⟩
      · exact Or.inl h
theorem zlv_tl {G : GT} (x : Option Value) (t : LV) (n : Nat) (q : Nat × Value) (h : q ∈ zlv G (n + 1) t) : q ∈ zlv G n (x :: t) := by
  cases x with
  | none => exact h
  | some v => exact List.mem_cons_of_mem _ h
theorem zlv_hd {G : GT} (x : Option Value) (t : LV) (n : Nat) (q : Nat × Value) (h : q ∈ zlv G n (x :: t)) : (q.1 = n ∧ x.map (zV G) = some q.2) ∨ q ∈ zlv G (n + 1) t := by
  cases x with
  | none => exact Or.inr h
  | some v =>
    rcases List.mem_cons.mp h with rfl | h
    · exact Or.inl ⟨rfl, rfl⟩
    · exact Or.inr h
theorem zst_mem {G : GT} : ∀ (lv : LV) (n i : Nat) (v : Value) (q : Nat × Value), q ∈ zlv G n (zst lv i v) → (q = (n + i, zV G v)) ∨ (q ∈ zlv G n lv ∧ ¬ q.1 = n + i ∧ ¬ (q.1 + 1 = n + i ∧ q.2.category = 2))
  | [], n, i, v, q, h => by simp [zst, zlv] at h
  | x :: t, n, 0, v, q, h => by
    simp only [zst] at h
    rcases List.mem_cons.mp h with rfl | h
    · exact Or.inl rfl
    · have := zlv_ge t (n + 1) q h
      exact Or.inr ⟨zlv_tl x t n q h, by omega, by omega⟩
  | x :: t, n, 1, v, q, h => by
    simp only [zst] at h
    rcases zlv_cut x _ n q h with h | ⟨h1, h2, h3⟩
    · rcases zst_mem t (n + 1) 0 v q h with rfl | ⟨g1, g2, g3⟩
      · exact Or.inl rfl
      · exact Or.inr ⟨zlv_tl x t n q g1, by omega, fun z => by have := zlv_ge t (n + 1) q g1; omega⟩
    · refine Or.inr ⟨?_, by omega, fun z => h2 z.2⟩
      rcases zlv_hd x _ n q h3 with ⟨a, b⟩ | h
      · cases x with
        | none => cases b
        | some w =>
          have : q = (n, zV G w) := by
            obtain ⟨q1, q2⟩ := q
            simp only [Option.map_some, Option.some.injEq] at a b
            rw [a, b]
          rw [this]
          exact List.mem_cons_self
      · have := zlv_ge _ (n + 1) q h
        omega
  | x :: t, n, i + 2, v, q, h => by
    simp only [zst] at h
    rcases zlv_hd x _ n q h with ⟨a, b⟩ | h
    · refine Or.inr ⟨?_, by omega, by omega⟩
      cases x with
      | none => cases b
      | some w =>
        have : q = (n, zV G w) := by
          obtain ⟨q1, q2⟩ := q
          simp only [Option.map_some, Option.some.injEq] at a b
          rw [a, b]
        rw [this]
        exact List.mem_cons_self
    · rcases zst_mem t (n + 1) (i + 1) v q h with rfl | ⟨g1, g2, g3⟩
      · exact Or.inl (by rw [show n + (i + 2) = n + 1 + (i + 1) by omega])
      · exact Or.inr ⟨zlv_tl x t n q g1, by omega, by rw [show n + (i + 2) = n + 1 + (i + 1) by omega]; exact g3⟩
theorem zst_has {G : GT} {ls : Array Slot} {nL i : Nat} {v : Value} {lv : LV} (h : lv_has ls nL ((i, zV G v) :: (zlv G 0 lv).filter (fun q => !(q.1 == i) && !(q.1 + 1 == i && q.2.category == 2)))) : lv_has ls nL (zlv G 0 (zst lv i v)) := by
  refine ⟨h.1, h.2.1, fun q hq => h.2.2 q ?_⟩
  rcases zst_mem lv 0 i v q hq with rfl | ⟨h1, h2, h3⟩
  · rw [Nat.zero_add]
    exact List.mem_cons_self
  · rw [Nat.zero_add] at h2 h3
    refine List.mem_cons_of_mem _ (List.mem_filter.mpr ⟨h1, ?_⟩)
    have e1 : (q.1 == i) = false := by simpa using h2
    have e2 : (q.1 + 1 == i && q.2.category == 2) = false := by
      by_cases z : q.1 + 1 = i
      · have : ¬ q.2.category = 2 := fun y => h3 ⟨z, y⟩
        simp [this]
      · simp [z]
    simp [e1, e2]
theorem zst2_mem {G : GT} : ∀ (lv : LV) (n i : Nat) (v : Value) (q : Nat × Value), q ∈ zlv G n (zst2 lv i v) → (q = (n + i, zV G v)) ∨ (q ∈ zlv G n lv ∧ ¬ q.1 = n + i ∧ ¬ q.1 = n + i + 1 ∧ ¬ (q.1 + 1 = n + i ∧ q.2.category = 2))
  | [], n, i, v, q, h => by simp [zst2, zlv] at h
  | [x], n, 0, v, q, h => by simp [zst2, zlv] at h
  | x :: y :: t, n, 0, v, q, h => by
    simp only [zst2] at h
    rcases List.mem_cons.mp h with rfl | h
    · exact Or.inl rfl
    · have h' : q ∈ zlv G (n + 1 + 1) t := h
      have := zlv_ge t (n + 1 + 1) q h'
      exact Or.inr ⟨zlv_tl x _ n q (zlv_tl y t (n + 1) q h'), by omega, by omega, by omega⟩
  | x :: t, n, 1, v, q, h => by
    simp only [zst2] at h
    rcases zlv_cut x _ n q h with h | ⟨h1, h2, h3⟩
    · rcases zst2_mem t (n + 1) 0 v q h with rfl | ⟨g1, g2, g4, g3⟩
      · exact Or.inl rfl
      · exact Or.inr ⟨zlv_tl x t n q g1, by omega, by omega, fun z => by have := zlv_ge t (n + 1) q g1; omega⟩
    · refine Or.inr ⟨?_, by omega, by omega, fun z => h2 z.2⟩
      rcases zlv_hd x _ n q h3 with ⟨a, b⟩ | h
      · cases x with
        | none => cases b
        | some w =>
          have : q = (n, zV G w) := by
            obtain ⟨q1, q2⟩ := q
            simp only [Option.map_some, Option.some.injEq] at a b
            rw [a, b]
          rw [this]
          exact List.mem_cons_self
      · have := zlv_ge _ (n + 1) q h
        omega
  | x :: t, n, i + 2, v, q, h => by
    simp only [zst2] at h
    rcases zlv_hd x _ n q h with ⟨a, b⟩ | h
    · refine Or.inr ⟨?_, by omega, by omega, by omega⟩
      cases x with
      | none => cases b
      | some w =>
        have : q = (n, zV G w) := by
          obtain ⟨q1, q2⟩ := q
          simp only [Option.map_some, Option.some.injEq] at a b
          rw [a, b]
        rw [this]
        exact List.mem_cons_self
    · rcases zst2_mem t (n + 1) (i + 1) v q h with rfl | ⟨g1, g2, g4, g3⟩
      · exact Or.inl (by rw [show n + (i + 2) = n + 1 + (i + 1) by omega])
      · exact Or.inr ⟨zlv_tl x t n q g1, by omega, by omega, by rw [show n + (i + 2) = n + 1 + (i + 1) by omega]; exact g3⟩
theorem zst2_has {G : GT} {ls : Array Slot} {nL i : Nat} {v : Value} {lv : LV} (h : lv_has ls nL ((i, zV G v) :: (zlv G 0 lv).filter (fun q => !(q.1 == i) && (!(q.1 == i + 1) && !(q.1 + 1 == i && q.2.category == 2))))) : lv_has ls nL (zlv G 0 (zst2 lv i v)) := by
  refine ⟨h.1, h.2.1, fun q hq => h.2.2 q ?_⟩
  rcases zst2_mem lv 0 i v q hq with rfl | ⟨h1, h2, h4, h3⟩
  · rw [Nat.zero_add]
    exact List.mem_cons_self
  · rw [Nat.zero_add] at h2 h3 h4
    refine List.mem_cons_of_mem _ (List.mem_filter.mpr ⟨h1, ?_⟩)
    have e1 : (q.1 == i) = false := by simpa using h2
    have e3 : (q.1 == i + 1) = false := by simpa using h4
    have e2 : (q.1 + 1 == i && q.2.category == 2) = false := by
      by_cases z : q.1 + 1 = i
      · have : ¬ q.2.category = 2 := fun y => h3 ⟨z, y⟩
        simp [this]
      · simp [z]
    simp [e1, e2, e3]
/-! the heap under reads, writes, new cells -/
theorem HR.idx {G : GT} {h : Hp} {H : Heap} (hR : HR G h H) {a : Nat} (h16 : 16 ≤ a) (hd : h.2 a ≠ zdead) : a < h.1 + 16 := by
  rcases Nat.lt_or_ge a (h.1 + 16) with q | q
  · exact q
  · exact absurd (hR.2.2.1 a q) hd
theorem HR.at {G : GT} {h : Hp} {H : Heap} (hR : HR G h H) {a : Nat} (h16 : 16 ≤ a) (hd : h.2 a ≠ zdead) : va_at (gD G) zcl (zad G a, zC G (h.2 a)) H := by
  have hi := hR.idx h16 hd
  have h1 := hR.2.1 (a - 16) (by omega)
  rw [show 16 + (a - 16) = a by omega] at h1
  rw [show zad G a = gb G + (a - 16) from if_neg (by omega)]
  exact h1
theorem HR.one {G : GT} {h : Hp} {H : Heap} (hR : HR G h H) {a : Nat} {e : zE} (h16 : 16 ≤ a) (he : h.2 a = e) (hd : e ≠ zdead) : va_P (gD G) zcl [(zad G a, zC G e)] H := by
  intro k q hk
  have h1 := hR.at h16 (by rw [he]; exact hd)
  rw [he] at h1
  have hz : k < 1 := (List.getElem?_eq_some_iff.mp hk).1
  rw [show k = 0 by omega] at hk
  cases hk
  exact h1
theorem zlow_obj {G : GT} {i ci : Nat} {fs : List Value} (h : zlow G i = .inr (ci, fs)) : zcl[ci]? = none := by
  unfold zlow at h
  split at h
  · cases h
  · split at h
    · cases h
    · split at h
      · cases h
      · split at h
        · obtain ⟨rfl, -⟩ := Prod.mk.inj (Sum.inr.inj h)
          exact List.getElem?_eq_none (by simp; omega)
        · split at h
          · cases h
          · obtain ⟨rfl, -⟩ := Prod.mk.inj (Sum.inr.inj h)
            rfl
theorem HR.obj {G : GT} {h : Hp} {H : Heap} (hR : HR G h H) {a ci : Nat} {fs : List Value} {q : vw_C} (he : h.2 a = .inr (ci, fs)) (hc : zcl[ci]? = some q) : 16 ≤ a ∧ (Sum.inr (ci, fs) : zE) ≠ zdead := by
  refine ⟨?_, fun z => ?_⟩
  · rcases Nat.lt_or_ge a 16 with z | z
    · have h1 := hR.2.2.2 a z
      rw [he] at h1
      rw [zlow_obj h1.symm] at hc
      cases hc
    · exact z
  · obtain ⟨rfl, -⟩ := Prod.mk.inj (Sum.inr.inj z)
    cases hc
theorem zinl {x : Nat × vp_A} : (Sum.inl x : zE) ≠ zdead := fun z => by cases z
theorem zad_in {G : GT} {a a' : Nat} (h : 16 ≤ a) (h' : 16 ≤ a') (e : zad G a = zad G a') : a = a' := by
  unfold zad at e
  rw [if_neg (by omega), if_neg (by omega)] at e
  omega
theorem HR.set {G : GT} {h : Hp} {H H1 : Heap} (hR : HR G h H) {a : Nat} {e : zE} (h16 : 16 ≤ a) (hd : h.2 a ≠ zdead) (he : va_at (gD G) zcl (zad G a, zC G e) H1) (z : H1.size = H.size) (oq : ∀ q : Nat, q ≠ zad G a → H1[q]? = H[q]?) : HR G (hset h a e) H1 := by
  have hi := hR.idx h16 hd
  refine ⟨by rw [z]; exact hR.1, fun i hl => ?_, fun i hl => ?_, fun i hl => ?_⟩
  · have e2 : gb G + i = zad G (16 + i) := by unfold zad; rw [if_neg (by omega)]; omega
    show va_at (gD G) zcl (gb G + i, zC G (if 16 + i = a then e else h.2 (16 + i))) H1
    by_cases c : 16 + i = a
    · rw [if_pos c, e2, c]
      exact he
    · rw [if_neg c]
      refine (hR.2.1 i hl).kept (oq _ ?_)
      show gb G + i ≠ zad G a
      rw [e2]
      exact fun w => c (zad_in (by omega) h16 w)
  · show (if i = a then e else h.2 i) = zdead
    have hl : h.1 + 16 ≤ i := hl
    rw [if_neg (by omega)]
    exact hR.2.2.1 i hl
  · show (if i = a then e else h.2 i) = zlow G i
    rw [if_neg (by omega)]
    exact hR.2.2.2 i hl
theorem HR.new {G : GT} {h : Hp} {H H1 : Heap} (hR : HR G h H) {e : zE} (he : va_at (gD G) zcl (H.size, zC G e) H1) (z : H1.size = H.size + 1) (oq : ∀ q : Nat, q < H.size → H1[q]? = H[q]?) : HR G (hnew h e) H1 := by
  refine ⟨by rw [z, hR.1]; rfl, fun i hl => ?_, fun i hl => ?_, fun i hl => ?_⟩
  · have hl : i < h.1 + 1 := hl
    show va_at (gD G) zcl (gb G + i, zC G (if 16 + i = h.1 + 16 then e else h.2 (16 + i))) H1
    by_cases c : 16 + i = h.1 + 16
    · rw [if_pos c, show gb G + i = H.size by rw [hR.1]; omega]
      exact he
    · rw [if_neg c]
      have h1 := hR.2.1 i (by omega)
      exact h1.kept (oq _ h1.lt)
  · have hl : h.1 + 1 + 16 ≤ i := hl
    show (if i = h.1 + 16 then e else h.2 i) = zdead
    rw [if_neg (by omega)]
    exact hR.2.2.1 i (by omega)
  · show (if i = h.1 + 16 then e else h.2 i) = zlow G i
    rw [if_neg (by omega)]
    exact hR.2.2.2 i hl
theorem HR.nad {G : GT} {h : Hp} {H : Heap} (hR : HR G h H) : Value.ref H.size = zV G (.ref (h.1 + 16)) := by
  show Value.ref H.size = Value.ref (zad G (h.1 + 16))
  rw [hR.1, show zad G (h.1 + 16) = gb G + (h.1 + 16 - 16) from if_neg (by omega), Nat.add_sub_cancel]
theorem zS.put {G : GT} {H0 H H1 : Heap} {locs : List Loc} {a k : Nat} (h : va_S (zW G) H0 H locs) (z : H1.size = H.size) (oq : ∀ q : Nat, q ≠ zad G a → H1[q]? = H[q]?) (h16 : 16 ≤ a) : va_S (zW G) H0 H1 (locs ++ [⟨zad G a, k⟩]) := h.put z oq (show gb G ≤ zad G a by unfold zad; rw [if_neg (by omega)]; omega)
theorem zS.new {G : GT} {H0 H H1 : Heap} {locs : List Loc} (h : va_S (zW G) H0 H locs) (z : H1.size = H.size + 1) (oq : ∀ q : Nat, q < H.size → H1[q]? = H[q]?) : va_S (zW G) H0 H1 locs :=
  ⟨Nat.le_trans h.1 (by omega), fun x h1 h2 => (oq x (Nat.lt_of_lt_of_le h1 h.1)).trans (h.2.1 x h1 h2), h.2.2⟩
