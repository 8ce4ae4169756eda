def zisr : Value → Prop
  | .ref _ => True
  | .null => True
  | _ => False
section ZR
variable {l : Launch} {G : GT} {M : MT} {d mc ms k n pc pc' : Nat} {Q : Option Value → Hp → Prop} {h : Hp} {lv : LV} {st : List Value}

theorem aw_iconst {z : Int} {v : Int32} (hd : decode M.2.1 pc = .ok (.iconst z, 1)) (hn : pc + 1 = pc') (hv : Int32.ofInt z = v) (kk : AW l G M d mc ms Q k n h lv (.int v :: st) pc') : AW l G M d mc ms Q k n h lv st pc := by
  intro p e s m args below meth c H locs ls Z hC hR hS hl hF
  have hx := hC.1
  have hb := hC.2.1
  subst hn
  exact lv_iconst hx hb hd hv (kk p e s m args below meth c H locs ls Z hC hR hS hl hF)
theorem aw_bipush {z : Int} {v : Int32} (hd : decode M.2.1 pc = .ok (.bipush z, 2)) (hn : pc + 2 = pc') (hv : (Int8.ofInt z).toInt32 = v) (kk : AW l G M d mc ms Q k n h lv (.int v :: st) pc') : AW l G M d mc ms Q k n h lv st pc := by
  intro p e s m args below meth c H locs ls Z hC hR hS hl hF
  have hx := hC.1
  have hb := hC.2.1
  subst hn
  exact lv_bipush hx hb hd hv (kk p e s m args below meth c H locs ls Z hC hR hS hl hF)
theorem aw_sipush {z : Int} {v : Int32} (hd : decode M.2.1 pc = .ok (.sipush z, 3)) (hn : pc + 3 = pc') (hv : (Int16.ofInt z).toInt32 = v) (kk : AW l G M d mc ms Q k n h lv (.int v :: st) pc') : AW l G M d mc ms Q k n h lv st pc := by
  intro p e s m args below meth c H locs ls Z hC hR hS hl hF
  have hx := hC.1
  have hb := hC.2.1
  subst hn
  exact lv_sipush hx hb hd hv (kk p e s m args below meth c H locs ls Z hC hR hS hl hF)
theorem aw_lconst {z : Fin 2} {v : Int64} (hd : decode M.2.1 pc = .ok (.lconst z, 1)) (hn : pc + 1 = pc') (hv : Int64.ofNat (z : Nat) = v) (kk : AW l G M d mc ms Q k n h lv (.long v :: st) pc') : AW l G M d mc ms Q k n h lv st pc := by
  intro p e s m args below meth c H locs ls Z hC hR hS hl hF
  have hx := hC.1
  have hb := hC.2.1
  subst hn
  exact lv_lconst hx hb hd hv (kk p e s m args below meth c H locs ls Z hC hR hS hl hF)
theorem aw_null  (hd : decode M.2.1 pc = .ok (.aconst_null, 1)) (hn : pc + 1 = pc')  (kk : AW l G M d mc ms Q k n h lv (.null :: st) pc') : AW l G M d mc ms Q k n h lv st pc := by
  intro p e s m args below meth c H locs ls Z hC hR hS hl hF
  have hx := hC.1
  have hb := hC.2.1
  subst hn
  exact lv_null hx hb hd (kk p e s m args below meth c H locs ls Z hC hR hS hl hF)
theorem aw_ldc {i : Nat} {v : Int32} (hd : decode M.2.1 pc = .ok (.ldc i, 2)) (hn : pc + 2 = pc') (hw : Cond.constant M.1 i v ∈ TB) (kk : AW l G M d mc ms Q k n h lv (.int v :: st) pc') : AW l G M d mc ms Q k n h lv st pc := by
  intro p e s m args below meth c H locs ls Z hC hR hS hl hF
  have hx := hC.1
  have hb := hC.2.1
  subst hn
  exact lv_ldc hx hb hC.2.2.2.2.2.2.1 (hC.2.2.2.2.2.2.2.1 _ hw) hd (kk p e s m args below meth c H locs ls Z hC hR hS hl hF)
theorem aw_ldc2 {i : Nat} {v : Int64} (hd : decode M.2.1 pc = .ok (.ldc2_w i, 3)) (hn : pc + 3 = pc') (hw : Cond.constantLong M.1 i v ∈ TB) (kk : AW l G M d mc ms Q k n h lv (.long v :: st) pc') : AW l G M d mc ms Q k n h lv st pc := by
  intro p e s m args below meth c H locs ls Z hC hR hS hl hF
  have hx := hC.1
  have hb := hC.2.1
  subst hn
  exact lv_ldc2 hx hb hC.2.2.2.2.2.2.1 (hC.2.2.2.2.2.2.2.1 _ hw) hd (kk p e s m args below meth c H locs ls Z hC hR hS hl hF)
theorem aw_ldcS {i a : Nat} {tx : String} (hd : decode M.2.1 pc = .ok (.ldc i, 2)) (hn : pc + 2 = pc') (hw : (M.1, i, tx, a) ∈ zstr) (ha : a < 16) (kk : AW l G M d mc ms Q k n h lv (.ref a :: st) pc') : AW l G M d mc ms Q k n h lv st pc := by
  intro p e s m args below meth c H locs ls Z hC hR hS hl hF
  have hx := hC.1
  have hb := hC.2.1
  subst hn
  exact va_ldcS hx hb hC.2.2.2.2.2.2.1 (by have h7 := hC.2.2.2.2.2.2.2.2.1.2.2.2.2.2.2.1 _ hw; rw [show zad G a = glo G a from if_pos ha]; exact h7) hd (kk p e s m args below meth c H locs ls Z hC hR hS hl hF)
theorem aw_iload_n {z : Fin 4} {x : Int32} (hd : decode M.2.1 pc = .ok (.iload_n z, 1)) (hn : pc + 1 = pc') (hv : lv[(z : Nat)]? = some (some (.int x))) (kk : AW l G M d mc ms Q k n h lv (.int x :: st) pc') : AW l G M d mc ms Q k n h lv st pc := by
  intro p e s m args below meth c H locs ls Z hC hR hS hl hF
  have hx := hC.1
  have hb := hC.2.1
  subst hn
  exact lv_iload_n hx hb hd rfl (zlv_at hl hv) (kk p e s m args below meth c H locs ls Z hC hR hS hl hF)
theorem aw_iload {z : Nat} {x : Int32} (hd : decode M.2.1 pc = .ok (.iload z, 2)) (hn : pc + 2 = pc') (hv : lv[z]? = some (some (.int x))) (kk : AW l G M d mc ms Q k n h lv (.int x :: st) pc') : AW l G M d mc ms Q k n h lv st pc := by
  intro p e s m args below meth c H locs ls Z hC hR hS hl hF
  have hx := hC.1
  have hb := hC.2.1
  subst hn
  exact lv_iload hx hb hd (zlv_at hl hv) (kk p e s m args below meth c H locs ls Z hC hR hS hl hF)
theorem aw_lload_n {z : Fin 4} {x : Int64} (hd : decode M.2.1 pc = .ok (.lload_n z, 1)) (hn : pc + 1 = pc') (hv : lv[(z : Nat)]? = some (some (.long x))) (kk : AW l G M d mc ms Q k n h lv (.long x :: st) pc') : AW l G M d mc ms Q k n h lv st pc := by
  intro p e s m args below meth c H locs ls Z hC hR hS hl hF
  have hx := hC.1
  have hb := hC.2.1
  subst hn
  exact lv_lload_n hx hb hd rfl (zlv_at hl hv) (kk p e s m args below meth c H locs ls Z hC hR hS hl hF)
theorem aw_lload {z : Nat} {x : Int64} (hd : decode M.2.1 pc = .ok (.lload z, 2)) (hn : pc + 2 = pc') (hv : lv[z]? = some (some (.long x))) (kk : AW l G M d mc ms Q k n h lv (.long x :: st) pc') : AW l G M d mc ms Q k n h lv st pc := by
  intro p e s m args below meth c H locs ls Z hC hR hS hl hF
  have hx := hC.1
  have hb := hC.2.1
  subst hn
  exact lv_lload hx hb hd (zlv_at hl hv) (kk p e s m args below meth c H locs ls Z hC hR hS hl hF)
theorem aw_aload_n {z : Fin 4} {v : Value} (hd : decode M.2.1 pc = .ok (.aload_n z, 1)) (hn : pc + 1 = pc') (hv : lv[(z : Nat)]? = some (some v)) (hr : zisr v) (kk : AW l G M d mc ms Q k n h lv (v :: st) pc') : AW l G M d mc ms Q k n h lv st pc := by
  intro p e s m args below meth c H locs ls Z hC hR hS hl hF
  have hx := hC.1
  have hb := hC.2.1
  subst hn
  have hv := zlv_at hl hv
  have K := kk p e s m args below meth c H locs ls Z hC hR hS hl hF
  cases v with
  | ref a => exact lv_aload_n hx hb hd rfl hv K
  | null => exact lv_aload_nN hx hb hd rfl hv K
  | _ => exact hr.elim
theorem aw_aload {z : Nat} {v : Value} (hd : decode M.2.1 pc = .ok (.aload z, 2)) (hn : pc + 2 = pc') (hv : lv[z]? = some (some v)) (hr : zisr v) (kk : AW l G M d mc ms Q k n h lv (v :: st) pc') : AW l G M d mc ms Q k n h lv st pc := by
  intro p e s m args below meth c H locs ls Z hC hR hS hl hF
  have hx := hC.1
  have hb := hC.2.1
  subst hn
  have hv := zlv_at hl hv
  have K := kk p e s m args below meth c H locs ls Z hC hR hS hl hF
  cases v with
  | ref a => exact lv_aload hx hb hd hv K
  | null => exact lv_aloadN hx hb hd hv K
  | _ => exact hr.elim
theorem aw_istore_n {z : Fin 4} {x : Int32} (hd : decode M.2.1 pc = .ok (.istore_n z, 1)) (hn : pc + 1 = pc') (hi : (z : Nat) < M.2.2.1) (kk : AW l G M d mc ms Q k n h (zst lv (z : Nat) (.int x)) st pc') : AW l G M d mc ms Q k n h lv (.int x :: st) pc := by
  intro p e s m args below meth c H locs ls Z hC hR hS hl hF
  have hx := hC.1
  have hb := hC.2.1
  subst hn
  exact lv_istore_n hx hb hd rfl hl hi rfl (fun ls' hl' => kk p e s m args below meth c H locs ls' Z hC hR hS (zst_has hl') hF)
theorem aw_lstore_n {z : Fin 4} {x : Int64} (hd : decode M.2.1 pc = .ok (.lstore_n z, 1)) (hn : pc + 1 = pc') (hi : (z : Nat) + 1 < M.2.2.1) (kk : AW l G M d mc ms Q k n h (zst2 lv (z : Nat) (.long x)) st pc') : AW l G M d mc ms Q k n h lv (.long x :: st) pc := by
  intro p e s m args below meth c H locs ls Z hC hR hS hl hF
  have hx := hC.1
  have hb := hC.2.1
  subst hn
  exact lv_lstore_n hx hb hd rfl hl hi rfl (fun ls' hl' => kk p e s m args below meth c H locs ls' Z hC hR hS (zst2_has hl') hF)
theorem aw_astore_n {z : Fin 4} {v : Value} (hd : decode M.2.1 pc = .ok (.astore_n z, 1)) (hn : pc + 1 = pc') (hi : (z : Nat) < M.2.2.1) (hr : zisr v) (kk : AW l G M d mc ms Q k n h (zst lv (z : Nat) v) st pc') : AW l G M d mc ms Q k n h lv (v :: st) pc := by
  intro p e s m args below meth c H locs ls Z hC hR hS hl hF
  have hx := hC.1
  have hb := hC.2.1
  subst hn
  cases v with
  | ref a => exact lv_astore_n hx hb hd rfl hl hi rfl (fun ls' hl' => kk p e s m args below meth c H locs ls' Z hC hR hS (zst_has (v := .ref a) hl') hF)
  | null => exact lv_astore_nN hx hb hd rfl hl hi rfl (fun ls' hl' => kk p e s m args below meth c H locs ls' Z hC hR hS (zst_has (v := .null) hl') hF)
  | _ => exact hr.elim
theorem aw_istore {z : Nat} {x : Int32} (hd : decode M.2.1 pc = .ok (.istore z, 2)) (hn : pc + 2 = pc') (hi : z < M.2.2.1) (kk : AW l G M d mc ms Q k n h (zst lv z (.int x)) st pc') : AW l G M d mc ms Q k n h lv (.int x :: st) pc := by
  intro p e s m args below meth c H locs ls Z hC hR hS hl hF
  have hx := hC.1
  have hb := hC.2.1
  subst hn
  exact lv_istore hx hb hd hl hi rfl (fun ls' hl' => kk p e s m args below meth c H locs ls' Z hC hR hS (zst_has hl') hF)
theorem aw_lstore {z : Nat} {x : Int64} (hd : decode M.2.1 pc = .ok (.lstore z, 2)) (hn : pc + 2 = pc') (hi : z + 1 < M.2.2.1) (kk : AW l G M d mc ms Q k n h (zst2 lv z (.long x)) st pc') : AW l G M d mc ms Q k n h lv (.long x :: st) pc := by
  intro p e s m args below meth c H locs ls Z hC hR hS hl hF
  have hx := hC.1
  have hb := hC.2.1
  subst hn
  exact lv_lstore hx hb hd hl hi rfl (fun ls' hl' => kk p e s m args below meth c H locs ls' Z hC hR hS (zst2_has hl') hF)
theorem aw_astore {z : Nat} {v : Value} (hd : decode M.2.1 pc = .ok (.astore z, 2)) (hn : pc + 2 = pc') (hi : z < M.2.2.1) (hr : zisr v) (kk : AW l G M d mc ms Q k n h (zst lv z v) st pc') : AW l G M d mc ms Q k n h lv (v :: st) pc := by
  intro p e s m args below meth c H locs ls Z hC hR hS hl hF
  have hx := hC.1
  have hb := hC.2.1
  subst hn
  cases v with
  | ref a => exact lv_astore hx hb hd hl hi rfl (fun ls' hl' => kk p e s m args below meth c H locs ls' Z hC hR hS (zst_has (v := .ref a) hl') hF)
  | null => exact lv_astoreN hx hb hd hl hi rfl (fun ls' hl' => kk p e s m args below meth c H locs ls' Z hC hR hS (zst_has (v := .null) hl') hF)
  | _ => exact hr.elim
theorem aw_iinc {i : Nat} {z : Int} {x v : Int32} (hd : decode M.2.1 pc = .ok (.iinc i z, 3)) (hn : pc + 3 = pc') (hx0 : lv[i]? = some (some (.int x))) (hv : x + Int32.ofInt z = v) (hi : i < M.2.2.1) (kk : AW l G M d mc ms Q k n h (zst lv i (.int v)) st pc') : AW l G M d mc ms Q k n h lv st pc := by
  intro p e s m args below meth c H locs ls Z hC hR hS hl hF
  have hx := hC.1
  have hb := hC.2.1
  subst hn
  have hm := zlv_mem (G := G) lv 0 i _ hx0
  rw [Nat.zero_add] at hm
  obtain ⟨k9, hk9⟩ := List.getElem?_of_mem hm
  exact lv_iinc hx hb hd hl hk9 hv hi rfl (fun ls' hl' => kk p e s m args below meth c H locs ls' Z hC hR hS (zst_has hl') hF)
theorem aw_iadd {x y : Int32} (hd : decode M.2.1 pc = .ok (.iadd, 1)) (hn : pc + 1 = pc')  (kk : AW l G M d mc ms Q k n h lv (.int (x + y) :: st) pc') : AW l G M d mc ms Q k n h lv (.int y :: .int x :: st) pc := by
  intro p e s m args below meth c H locs ls Z hC hR hS hl hF
  have hx := hC.1
  have hb := hC.2.1
  subst hn
  exact lv_iadd hx hb hd (kk p e s m args below meth c H locs ls Z hC hR hS hl hF)
theorem aw_isub {x y : Int32} (hd : decode M.2.1 pc = .ok (.isub, 1)) (hn : pc + 1 = pc')  (kk : AW l G M d mc ms Q k n h lv (.int (x - y) :: st) pc') : AW l G M d mc ms Q k n h lv (.int y :: .int x :: st) pc := by
  intro p e s m args below meth c H locs ls Z hC hR hS hl hF
  have hx := hC.1
  have hb := hC.2.1
  subst hn
  exact lv_isub hx hb hd (kk p e s m args below meth c H locs ls Z hC hR hS hl hF)
theorem aw_imul {x y : Int32} (hd : decode M.2.1 pc = .ok (.imul, 1)) (hn : pc + 1 = pc')  (kk : AW l G M d mc ms Q k n h lv (.int (x * y) :: st) pc') : AW l G M d mc ms Q k n h lv (.int y :: .int x :: st) pc := by
  intro p e s m args below meth c H locs ls Z hC hR hS hl hF
  have hx := hC.1
  have hb := hC.2.1
  subst hn
  exact lv_imul hx hb hd (kk p e s m args below meth c H locs ls Z hC hR hS hl hF)
theorem aw_iand {x y : Int32} (hd : decode M.2.1 pc = .ok (.iand, 1)) (hn : pc + 1 = pc')  (kk : AW l G M d mc ms Q k n h lv (.int (x &&& y) :: st) pc') : AW l G M d mc ms Q k n h lv (.int y :: .int x :: st) pc := by
  intro p e s m args below meth c H locs ls Z hC hR hS hl hF
  have hx := hC.1
  have hb := hC.2.1
  subst hn
  exact lv_iand hx hb hd (kk p e s m args below meth c H locs ls Z hC hR hS hl hF)
theorem aw_ior {x y : Int32} (hd : decode M.2.1 pc = .ok (.ior, 1)) (hn : pc + 1 = pc')  (kk : AW l G M d mc ms Q k n h lv (.int (x ||| y) :: st) pc') : AW l G M d mc ms Q k n h lv (.int y :: .int x :: st) pc := by
  intro p e s m args below meth c H locs ls Z hC hR hS hl hF
  have hx := hC.1
  have hb := hC.2.1
  subst hn
  exact lv_ior hx hb hd (kk p e s m args below meth c H locs ls Z hC hR hS hl hF)
theorem aw_ixor {x y : Int32} (hd : decode M.2.1 pc = .ok (.ixor, 1)) (hn : pc + 1 = pc')  (kk : AW l G M d mc ms Q k n h lv (.int (x ^^^ y) :: st) pc') : AW l G M d mc ms Q k n h lv (.int y :: .int x :: st) pc := by
  intro p e s m args below meth c H locs ls Z hC hR hS hl hF
  have hx := hC.1
  have hb := hC.2.1
  subst hn
  exact lv_ixor hx hb hd (kk p e s m args below meth c H locs ls Z hC hR hS hl hF)
theorem aw_ishl {x y : Int32} (hd : decode M.2.1 pc = .ok (.ishl, 1)) (hn : pc + 1 = pc')  (kk : AW l G M d mc ms Q k n h lv (.int (x <<< (y &&& 31)) :: st) pc') : AW l G M d mc ms Q k n h lv (.int y :: .int x :: st) pc := by
  intro p e s m args below meth c H locs ls Z hC hR hS hl hF
  have hx := hC.1
  have hb := hC.2.1
  subst hn
  exact lv_ishl hx hb hd (kk p e s m args below meth c H locs ls Z hC hR hS hl hF)
theorem aw_ishr {x y : Int32} (hd : decode M.2.1 pc = .ok (.ishr, 1)) (hn : pc + 1 = pc')  (kk : AW l G M d mc ms Q k n h lv (.int (x >>> (y &&& 31)) :: st) pc') : AW l G M d mc ms Q k n h lv (.int y :: .int x :: st) pc := by
  intro p e s m args below meth c H locs ls Z hC hR hS hl hF
  have hx := hC.1
  have hb := hC.2.1
  subst hn
  exact lv_ishr hx hb hd (kk p e s m args below meth c H locs ls Z hC hR hS hl hF)
theorem aw_idiv {x y : Int32} (hd : decode M.2.1 pc = .ok (.idiv, 1)) (hn : pc + 1 = pc') (hne : ¬ y = 0) (kk : AW l G M d mc ms Q k n h lv (.int (x / y) :: st) pc') : AW l G M d mc ms Q k n h lv (.int y :: .int x :: st) pc := by
  intro p e s m args below meth c H locs ls Z hC hR hS hl hF
  have hx := hC.1
  have hb := hC.2.1
  subst hn
  exact lv_idiv hx hb hd hne (kk p e s m args below meth c H locs ls Z hC hR hS hl hF)
theorem aw_irem {x y : Int32} (hd : decode M.2.1 pc = .ok (.irem, 1)) (hn : pc + 1 = pc') (hne : ¬ y = 0) (kk : AW l G M d mc ms Q k n h lv (.int (x - x / y * y) :: st) pc') : AW l G M d mc ms Q k n h lv (.int y :: .int x :: st) pc := by
  intro p e s m args below meth c H locs ls Z hC hR hS hl hF
  have hx := hC.1
  have hb := hC.2.1
  subst hn
  exact lv_irem hx hb hd hne (kk p e s m args below meth c H locs ls Z hC hR hS hl hF)
theorem aw_ineg {x : Int32} (hd : decode M.2.1 pc = .ok (.ineg, 1)) (hn : pc + 1 = pc')  (kk : AW l G M d mc ms Q k n h lv (.int (-x) :: st) pc') : AW l G M d mc ms Q k n h lv (.int x :: st) pc := by
  intro p e s m args below meth c H locs ls Z hC hR hS hl hF
  have hx := hC.1
  have hb := hC.2.1
  subst hn
  exact lv_ineg hx hb hd (kk p e s m args below meth c H locs ls Z hC hR hS hl hF)
theorem aw_iushr {x y : Int32} (hd : decode M.2.1 pc = .ok (.iushr, 1)) (hn : pc + 1 = pc')  (kk : AW l G M d mc ms Q k n h lv (.int (x.toUInt32 >>> (y.toUInt32 &&& Int32.toUInt32 31)).toInt32 :: st) pc') : AW l G M d mc ms Q k n h lv (.int y :: .int x :: st) pc := by
  intro p e s m args below meth c H locs ls Z hC hR hS hl hF
  have hx := hC.1
  have hb := hC.2.1
  subst hn
  exact lv_iushr hx hb hd rfl (kk p e s m args below meth c H locs ls Z hC hR hS hl hF)
theorem aw_ladd {x y : Int64} (hd : decode M.2.1 pc = .ok (.ladd, 1)) (hn : pc + 1 = pc')  (kk : AW l G M d mc ms Q k n h lv (.long (x + y) :: st) pc') : AW l G M d mc ms Q k n h lv (.long y :: .long x :: st) pc := by
  intro p e s m args below meth c H locs ls Z hC hR hS hl hF
  have hx := hC.1
  have hb := hC.2.1
  subst hn
  exact lv_ladd hx hb hd (kk p e s m args below meth c H locs ls Z hC hR hS hl hF)
theorem aw_lsub {x y : Int64} (hd : decode M.2.1 pc = .ok (.lsub, 1)) (hn : pc + 1 = pc')  (kk : AW l G M d mc ms Q k n h lv (.long (x - y) :: st) pc') : AW l G M d mc ms Q k n h lv (.long y :: .long x :: st) pc := by
  intro p e s m args below meth c H locs ls Z hC hR hS hl hF
  have hx := hC.1
  have hb := hC.2.1
  subst hn
  exact lv_lsub hx hb hd (kk p e s m args below meth c H locs ls Z hC hR hS hl hF)
theorem aw_lmul {x y : Int64} (hd : decode M.2.1 pc = .ok (.lmul, 1)) (hn : pc + 1 = pc')  (kk : AW l G M d mc ms Q k n h lv (.long (x * y) :: st) pc') : AW l G M d mc ms Q k n h lv (.long y :: .long x :: st) pc := by
  intro p e s m args below meth c H locs ls Z hC hR hS hl hF
  have hx := hC.1
  have hb := hC.2.1
  subst hn
  exact lv_lmul hx hb hd (kk p e s m args below meth c H locs ls Z hC hR hS hl hF)
theorem aw_land {x y : Int64} (hd : decode M.2.1 pc = .ok (.land, 1)) (hn : pc + 1 = pc')  (kk : AW l G M d mc ms Q k n h lv (.long (x &&& y) :: st) pc') : AW l G M d mc ms Q k n h lv (.long y :: .long x :: st) pc := by
  intro p e s m args below meth c H locs ls Z hC hR hS hl hF
  have hx := hC.1
  have hb := hC.2.1
  subst hn
  exact lv_land hx hb hd (kk p e s m args below meth c H locs ls Z hC hR hS hl hF)
theorem aw_lor {x y : Int64} (hd : decode M.2.1 pc = .ok (.lor, 1)) (hn : pc + 1 = pc')  (kk : AW l G M d mc ms Q k n h lv (.long (x ||| y) :: st) pc') : AW l G M d mc ms Q k n h lv (.long y :: .long x :: st) pc := by
  intro p e s m args below meth c H locs ls Z hC hR hS hl hF
  have hx := hC.1
  have hb := hC.2.1
  subst hn
  exact lv_lor hx hb hd (kk p e s m args below meth c H locs ls Z hC hR hS hl hF)
theorem aw_lxor {x y : Int64} (hd : decode M.2.1 pc = .ok (.lxor, 1)) (hn : pc + 1 = pc')  (kk : AW l G M d mc ms Q k n h lv (.long (x ^^^ y) :: st) pc') : AW l G M d mc ms Q k n h lv (.long y :: .long x :: st) pc := by
  intro p e s m args below meth c H locs ls Z hC hR hS hl hF
  have hx := hC.1
  have hb := hC.2.1
  subst hn
  exact lv_lxor hx hb hd (kk p e s m args below meth c H locs ls Z hC hR hS hl hF)
theorem aw_ldiv {x y : Int64} (hd : decode M.2.1 pc = .ok (.ldiv, 1)) (hn : pc + 1 = pc') (hne : ¬ y = 0) (kk : AW l G M d mc ms Q k n h lv (.long (x / y) :: st) pc') : AW l G M d mc ms Q k n h lv (.long y :: .long x :: st) pc := by
  intro p e s m args below meth c H locs ls Z hC hR hS hl hF
  have hx := hC.1
  have hb := hC.2.1
  subst hn
  exact lv_ldiv hx hb hd hne (kk p e s m args below meth c H locs ls Z hC hR hS hl hF)
theorem aw_lrem {x y : Int64} (hd : decode M.2.1 pc = .ok (.lrem, 1)) (hn : pc + 1 = pc') (hne : ¬ y = 0) (kk : AW l G M d mc ms Q k n h lv (.long (x - x / y * y) :: st) pc') : AW l G M d mc ms Q k n h lv (.long y :: .long x :: st) pc := by
  intro p e s m args below meth c H locs ls Z hC hR hS hl hF
  have hx := hC.1
  have hb := hC.2.1
  subst hn
  exact lv_lrem hx hb hd hne (kk p e s m args below meth c H locs ls Z hC hR hS hl hF)
theorem aw_lshl {x : Int64} {y : Int32} (hd : decode M.2.1 pc = .ok (.lshl, 1)) (hn : pc + 1 = pc')  (kk : AW l G M d mc ms Q k n h lv (.long (x <<< (y.toInt64 &&& 63)) :: st) pc') : AW l G M d mc ms Q k n h lv (.int y :: .long x :: st) pc := by
  intro p e s m args below meth c H locs ls Z hC hR hS hl hF
  have hx := hC.1
  have hb := hC.2.1
  subst hn
  exact lv_lshl hx hb hd rfl (kk p e s m args below meth c H locs ls Z hC hR hS hl hF)
theorem aw_lcmp {x y : Int64} (hd : decode M.2.1 pc = .ok (.lcmp, 1)) (hn : pc + 1 = pc')  (kk : AW l G M d mc ms Q k n h lv (.int (lg_cmp x y) :: st) pc') : AW l G M d mc ms Q k n h lv (.long y :: .long x :: st) pc := by
  intro p e s m args below meth c H locs ls Z hC hR hS hl hF
  have hx := hC.1
  have hb := hC.2.1
  subst hn
  exact W.lcmp hx hb hd (kk p e s m args below meth c H locs ls Z hC hR hS hl hF)
theorem aw_i2l {x : Int32} (hd : decode M.2.1 pc = .ok (.i2l, 1)) (hn : pc + 1 = pc')  (kk : AW l G M d mc ms Q k n h lv (.long (x.toInt64) :: st) pc') : AW l G M d mc ms Q k n h lv (.int x :: st) pc := by
  intro p e s m args below meth c H locs ls Z hC hR hS hl hF
  have hx := hC.1
  have hb := hC.2.1
  subst hn
  exact lv_i2l hx hb hd rfl (kk p e s m args below meth c H locs ls Z hC hR hS hl hF)
theorem aw_l2i {x : Int64} (hd : decode M.2.1 pc = .ok (.l2i, 1)) (hn : pc + 1 = pc')  (kk : AW l G M d mc ms Q k n h lv (.int (x.toInt32) :: st) pc') : AW l G M d mc ms Q k n h lv (.long x :: st) pc := by
  intro p e s m args below meth c H locs ls Z hC hR hS hl hF
  have hx := hC.1
  have hb := hC.2.1
  subst hn
  exact lv_l2i hx hb hd rfl (kk p e s m args below meth c H locs ls Z hC hR hS hl hF)
theorem aw_i2b {x : Int32} (hd : decode M.2.1 pc = .ok (.i2b, 1)) (hn : pc + 1 = pc')  (kk : AW l G M d mc ms Q k n h lv (.int (x.toInt8.toInt32) :: st) pc') : AW l G M d mc ms Q k n h lv (.int x :: st) pc := by
  intro p e s m args below meth c H locs ls Z hC hR hS hl hF
  have hx := hC.1
  have hb := hC.2.1
  subst hn
  exact lv_i2b hx hb hd rfl (kk p e s m args below meth c H locs ls Z hC hR hS hl hF)
theorem aw_i2s {x : Int32} (hd : decode M.2.1 pc = .ok (.i2s, 1)) (hn : pc + 1 = pc')  (kk : AW l G M d mc ms Q k n h lv (.int (x.toInt16.toInt32) :: st) pc') : AW l G M d mc ms Q k n h lv (.int x :: st) pc := by
  intro p e s m args below meth c H locs ls Z hC hR hS hl hF
  have hx := hC.1
  have hb := hC.2.1
  subst hn
  exact lv_i2s hx hb hd rfl (kk p e s m args below meth c H locs ls Z hC hR hS hl hF)
theorem aw_i2c {x : Int32} (hd : decode M.2.1 pc = .ok (.i2c, 1)) (hn : pc + 1 = pc')  (kk : AW l G M d mc ms Q k n h lv (.int ((x.toUInt32 % 65536).toInt32) :: st) pc') : AW l G M d mc ms Q k n h lv (.int x :: st) pc := by
  intro p e s m args below meth c H locs ls Z hC hR hS hl hF
  have hx := hC.1
  have hb := hC.2.1
  subst hn
  exact lv_i2c hx hb hd rfl (kk p e s m args below meth c H locs ls Z hC hR hS hl hF)
theorem aw_dup {v : Value} (hd : decode M.2.1 pc = .ok (.dup, 1)) (hn : pc + 1 = pc') (hv : v.category = 1) (kk : AW l G M d mc ms Q k n h lv (v :: v :: st) pc') : AW l G M d mc ms Q k n h lv (v :: st) pc := by
  intro p e s m args below meth c H locs ls Z hC hR hS hl hF
  have hx := hC.1
  have hb := hC.2.1
  subst hn
  exact lv_dup hx hb hd (by rw [zV_cat]; exact hv) (kk p e s m args below meth c H locs ls Z hC hR hS hl hF)
theorem aw_dup_x1 {v w : Value} (hd : decode M.2.1 pc = .ok (.dup_x1, 1)) (hn : pc + 1 = pc') (hv : v.category = 1) (hw : w.category = 1) (kk : AW l G M d mc ms Q k n h lv (v :: w :: v :: st) pc') : AW l G M d mc ms Q k n h lv (v :: w :: st) pc := by
  intro p e s m args below meth c H locs ls Z hC hR hS hl hF
  have hx := hC.1
  have hb := hC.2.1
  subst hn
  exact lv_dup_x1 hx hb hd (by rw [zV_cat]; exact hv) (by rw [zV_cat]; exact hw) (kk p e s m args below meth c H locs ls Z hC hR hS hl hF)
theorem aw_dup_x2 {v w u : Value} (hd : decode M.2.1 pc = .ok (.dup_x2, 1)) (hn : pc + 1 = pc') (hv : v.category = 1) (hw : w.category = 1) (hu : u.category = 1) (kk : AW l G M d mc ms Q k n h lv (v :: w :: u :: v :: st) pc') : AW l G M d mc ms Q k n h lv (v :: w :: u :: st) pc := by
  intro p e s m args below meth c H locs ls Z hC hR hS hl hF
  have hx := hC.1
  have hb := hC.2.1
  subst hn
  exact lv_dup_x2 hx hb hd (by rw [zV_cat]; exact hv) (by rw [zV_cat]; exact hw) (by rw [zV_cat]; exact hu) (kk p e s m args below meth c H locs ls Z hC hR hS hl hF)
theorem aw_dup2 {v w : Value} (hd : decode M.2.1 pc = .ok (.dup2, 1)) (hn : pc + 1 = pc') (hv : v.category = 1) (hw : w.category = 1) (kk : AW l G M d mc ms Q k n h lv (v :: w :: v :: w :: st) pc') : AW l G M d mc ms Q k n h lv (v :: w :: st) pc := by
  intro p e s m args below meth c H locs ls Z hC hR hS hl hF
  have hx := hC.1
  have hb := hC.2.1
  subst hn
  exact lv_dup2_11 hx hb hd (by rw [zV_cat]; exact hv) (by rw [zV_cat]; exact hw) (kk p e s m args below meth c H locs ls Z hC hR hS hl hF)
theorem aw_pop {v : Value} (hd : decode M.2.1 pc = .ok (.pop, 1)) (hn : pc + 1 = pc') (hv : v.category = 1) (kk : AW l G M d mc ms Q k n h lv st pc') : AW l G M d mc ms Q k n h lv (v :: st) pc := by
  intro p e s m args below meth c H locs ls Z hC hR hS hl hF
  have hx := hC.1
  have hb := hC.2.1
  subst hn
  exact lv_pop hx hb hd (by rw [zV_cat]; exact hv) (kk p e s m args below meth c H locs ls Z hC hR hS hl hF)
theorem aw_if_eq {x : Int32} {off : Int} {tgt : Nat} (hd : decode M.2.1 pc = .ok (.ifCond .eq off, 3)) (hn : pc + 3 = pc') (ht : (pc : Int) + off = (tgt : Int)) (kt : x = 0 → AW l G M d mc ms Q k n h lv st tgt) (kf : ¬ x = 0 → AW l G M d mc ms Q k n h lv st pc') : AW l G M d mc ms Q k n h lv (.int x :: st) pc := by
  intro p e s m args below meth c H locs ls Z hC hR hS hl hF
  have hx := hC.1
  have hb := hC.2.1
  subst hn
  exact lv_if_eq hx hb hd ht (fun z => kt z p e s m args below meth c H locs ls Z hC hR hS hl hF) (fun z => kf z p e s m args below meth c H locs ls Z hC hR hS hl hF)
theorem aw_icmp_eq {x y : Int32} {off : Int} {tgt : Nat} (hd : decode M.2.1 pc = .ok (.if_icmp .eq off, 3)) (hn : pc + 3 = pc') (ht : (pc : Int) + off = (tgt : Int)) (kt : x = y → AW l G M d mc ms Q k n h lv st tgt) (kf : ¬ x = y → AW l G M d mc ms Q k n h lv st pc') : AW l G M d mc ms Q k n h lv (.int y :: .int x :: st) pc := by
  intro p e s m args below meth c H locs ls Z hC hR hS hl hF
  have hx := hC.1
  have hb := hC.2.1
  subst hn
  exact lv_icmp_eq hx hb hd ht (fun z => kt z p e s m args below meth c H locs ls Z hC hR hS hl hF) (fun z => kf z p e s m args below meth c H locs ls Z hC hR hS hl hF)
theorem aw_if_ne {x : Int32} {off : Int} {tgt : Nat} (hd : decode M.2.1 pc = .ok (.ifCond .ne off, 3)) (hn : pc + 3 = pc') (ht : (pc : Int) + off = (tgt : Int)) (kt : ¬ x = 0 → AW l G M d mc ms Q k n h lv st tgt) (kf : x = 0 → AW l G M d mc ms Q k n h lv st pc') : AW l G M d mc ms Q k n h lv (.int x :: st) pc := by
  intro p e s m args below meth c H locs ls Z hC hR hS hl hF
  have hx := hC.1
  have hb := hC.2.1
  subst hn
  exact lv_if_ne hx hb hd ht (fun z => kt z p e s m args below meth c H locs ls Z hC hR hS hl hF) (fun z => kf z p e s m args below meth c H locs ls Z hC hR hS hl hF)
theorem aw_icmp_ne {x y : Int32} {off : Int} {tgt : Nat} (hd : decode M.2.1 pc = .ok (.if_icmp .ne off, 3)) (hn : pc + 3 = pc') (ht : (pc : Int) + off = (tgt : Int)) (kt : ¬ x = y → AW l G M d mc ms Q k n h lv st tgt) (kf : x = y → AW l G M d mc ms Q k n h lv st pc') : AW l G M d mc ms Q k n h lv (.int y :: .int x :: st) pc := by
  intro p e s m args below meth c H locs ls Z hC hR hS hl hF
  have hx := hC.1
  have hb := hC.2.1
  subst hn
  exact lv_icmp_ne hx hb hd ht (fun z => kt z p e s m args below meth c H locs ls Z hC hR hS hl hF) (fun z => kf z p e s m args below meth c H locs ls Z hC hR hS hl hF)
theorem aw_if_lt {x : Int32} {off : Int} {tgt : Nat} (hd : decode M.2.1 pc = .ok (.ifCond .lt off, 3)) (hn : pc + 3 = pc') (ht : (pc : Int) + off = (tgt : Int)) (kt : x < 0 → AW l G M d mc ms Q k n h lv st tgt) (kf : ¬ x < 0 → AW l G M d mc ms Q k n h lv st pc') : AW l G M d mc ms Q k n h lv (.int x :: st) pc := by
  intro p e s m args below meth c H locs ls Z hC hR hS hl hF
  have hx := hC.1
  have hb := hC.2.1
  subst hn
  exact lv_if_lt hx hb hd ht (fun z => kt z p e s m args below meth c H locs ls Z hC hR hS hl hF) (fun z => kf z p e s m args below meth c H locs ls Z hC hR hS hl hF)
theorem aw_icmp_lt {x y : Int32} {off : Int} {tgt : Nat} (hd : decode M.2.1 pc = .ok (.if_icmp .lt off, 3)) (hn : pc + 3 = pc') (ht : (pc : Int) + off = (tgt : Int)) (kt : x < y → AW l G M d mc ms Q k n h lv st tgt) (kf : ¬ x < y → AW l G M d mc ms Q k n h lv st pc') : AW l G M d mc ms Q k n h lv (.int y :: .int x :: st) pc := by
  intro p e s m args below meth c H locs ls Z hC hR hS hl hF
  have hx := hC.1
  have hb := hC.2.1
  subst hn
  exact lv_icmp_lt hx hb hd ht (fun z => kt z p e s m args below meth c H locs ls Z hC hR hS hl hF) (fun z => kf z p e s m args below meth c H locs ls Z hC hR hS hl hF)
theorem aw_if_ge {x : Int32} {off : Int} {tgt : Nat} (hd : decode M.2.1 pc = .ok (.ifCond .ge off, 3)) (hn : pc + 3 = pc') (ht : (pc : Int) + off = (tgt : Int)) (kt : 0 ≤ x → AW l G M d mc ms Q k n h lv st tgt) (kf : ¬ 0 ≤ x → AW l G M d mc ms Q k n h lv st pc') : AW l G M d mc ms Q k n h lv (.int x :: st) pc := by
  intro p e s m args below meth c H locs ls Z hC hR hS hl hF
  have hx := hC.1
  have hb := hC.2.1
  subst hn
  exact lv_if_ge hx hb hd ht (fun z => kt z p e s m args below meth c H locs ls Z hC hR hS hl hF) (fun z => kf z p e s m args below meth c H locs ls Z hC hR hS hl hF)
theorem aw_icmp_ge {x y : Int32} {off : Int} {tgt : Nat} (hd : decode M.2.1 pc = .ok (.if_icmp .ge off, 3)) (hn : pc + 3 = pc') (ht : (pc : Int) + off = (tgt : Int)) (kt : y ≤ x → AW l G M d mc ms Q k n h lv st tgt) (kf : ¬ y ≤ x → AW l G M d mc ms Q k n h lv st pc') : AW l G M d mc ms Q k n h lv (.int y :: .int x :: st) pc := by
  intro p e s m args below meth c H locs ls Z hC hR hS hl hF
  have hx := hC.1
  have hb := hC.2.1
  subst hn
  exact lv_icmp_ge hx hb hd ht (fun z => kt z p e s m args below meth c H locs ls Z hC hR hS hl hF) (fun z => kf z p e s m args below meth c H locs ls Z hC hR hS hl hF)
theorem aw_if_gt {x : Int32} {off : Int} {tgt : Nat} (hd : decode M.2.1 pc = .ok (.ifCond .gt off, 3)) (hn : pc + 3 = pc') (ht : (pc : Int) + off = (tgt : Int)) (kt : 0 < x → AW l G M d mc ms Q k n h lv st tgt) (kf : ¬ 0 < x → AW l G M d mc ms Q k n h lv st pc') : AW l G M d mc ms Q k n h lv (.int x :: st) pc := by
  intro p e s m args below meth c H locs ls Z hC hR hS hl hF
  have hx := hC.1
  have hb := hC.2.1
  subst hn
  exact lv_if_gt hx hb hd ht (fun z => kt z p e s m args below meth c H locs ls Z hC hR hS hl hF) (fun z => kf z p e s m args below meth c H locs ls Z hC hR hS hl hF)
theorem aw_icmp_gt {x y : Int32} {off : Int} {tgt : Nat} (hd : decode M.2.1 pc = .ok (.if_icmp .gt off, 3)) (hn : pc + 3 = pc') (ht : (pc : Int) + off = (tgt : Int)) (kt : y < x → AW l G M d mc ms Q k n h lv st tgt) (kf : ¬ y < x → AW l G M d mc ms Q k n h lv st pc') : AW l G M d mc ms Q k n h lv (.int y :: .int x :: st) pc := by
  intro p e s m args below meth c H locs ls Z hC hR hS hl hF
  have hx := hC.1
  have hb := hC.2.1
  subst hn
  exact lv_icmp_gt hx hb hd ht (fun z => kt z p e s m args below meth c H locs ls Z hC hR hS hl hF) (fun z => kf z p e s m args below meth c H locs ls Z hC hR hS hl hF)
theorem aw_if_le {x : Int32} {off : Int} {tgt : Nat} (hd : decode M.2.1 pc = .ok (.ifCond .le off, 3)) (hn : pc + 3 = pc') (ht : (pc : Int) + off = (tgt : Int)) (kt : x ≤ 0 → AW l G M d mc ms Q k n h lv st tgt) (kf : ¬ x ≤ 0 → AW l G M d mc ms Q k n h lv st pc') : AW l G M d mc ms Q k n h lv (.int x :: st) pc := by
  intro p e s m args below meth c H locs ls Z hC hR hS hl hF
  have hx := hC.1
  have hb := hC.2.1
  subst hn
  exact lv_if_le hx hb hd ht (fun z => kt z p e s m args below meth c H locs ls Z hC hR hS hl hF) (fun z => kf z p e s m args below meth c H locs ls Z hC hR hS hl hF)
theorem aw_icmp_le {x y : Int32} {off : Int} {tgt : Nat} (hd : decode M.2.1 pc = .ok (.if_icmp .le off, 3)) (hn : pc + 3 = pc') (ht : (pc : Int) + off = (tgt : Int)) (kt : x ≤ y → AW l G M d mc ms Q k n h lv st tgt) (kf : ¬ x ≤ y → AW l G M d mc ms Q k n h lv st pc') : AW l G M d mc ms Q k n h lv (.int y :: .int x :: st) pc := by
  intro p e s m args below meth c H locs ls Z hC hR hS hl hF
  have hx := hC.1
  have hb := hC.2.1
  subst hn
  exact lv_icmp_le hx hb hd ht (fun z => kt z p e s m args below meth c H locs ls Z hC hR hS hl hF) (fun z => kf z p e s m args below meth c H locs ls Z hC hR hS hl hF)
theorem aw_goto {off : Int} {tgt : Nat} (hd : decode M.2.1 pc = .ok (.goto off, 3)) (ht : (pc : Int) + off = (tgt : Int)) (kk : AW l G M d mc ms Q k n h lv st tgt) : AW l G M d mc ms Q k n h lv st pc := by
  intro p e s m args below meth c H locs ls Z hC hR hS hl hF
  have hx := hC.1
  have hb := hC.2.1
  exact lv_goto hx hb hd ht (kk p e s m args below meth c H locs ls Z hC hR hS hl hF)
theorem aw_ifnonnull {v : Value} {off : Int} {tgt : Nat} (hd : decode M.2.1 pc = .ok (.ifnonnull off, 3)) (hn : pc + 3 = pc') (ht : (pc : Int) + off = (tgt : Int)) (hr : zisr v) (kt : v ≠ .null → AW l G M d mc ms Q k n h lv st tgt) (kf : v = .null → AW l G M d mc ms Q k n h lv st pc') : AW l G M d mc ms Q k n h lv (v :: st) pc := by
  intro p e s m args below meth c H locs ls Z hC hR hS hl hF
  have hx := hC.1
  have hb := hC.2.1
  subst hn
  cases v with
  | ref a => exact lv_ifnonnull hx hb hd ht (kt (fun z => by cases z) p e s m args below meth c H locs ls Z hC hR hS hl hF)
  | null => exact lv_ifnonnullN hx hb hd (kf rfl p e s m args below meth c H locs ls Z hC hR hS hl hF)
  | _ => exact hr.elim
theorem aw_ifnull {v : Value} {off : Int} {tgt : Nat} (hd : decode M.2.1 pc = .ok (.ifnull off, 3)) (hn : pc + 3 = pc') (ht : (pc : Int) + off = (tgt : Int)) (hr : zisr v) (kt : v = .null → AW l G M d mc ms Q k n h lv st tgt) (kf : v ≠ .null → AW l G M d mc ms Q k n h lv st pc') : AW l G M d mc ms Q k n h lv (v :: st) pc := by
  intro p e s m args below meth c H locs ls Z hC hR hS hl hF
  have hx := hC.1
  have hb := hC.2.1
  subst hn
  cases v with
  | ref a => exact lv_ifnull hx hb hd (kf (fun z => by cases z) p e s m args below meth c H locs ls Z hC hR hS hl hF)
  | null => exact lv_ifnullN hx hb hd ht (kt rfl p e s m args below meth c H locs ls Z hC hR hS hl hF)
  | _ => exact hr.elim
theorem aw_tsw {x v : Int32} {dflt lo hi off : Int} {offs : Array Int} {len tgt : Nat} (hd : decode M.2.1 pc = .ok (.tableswitch dflt lo hi offs, len)) (h1 : ¬ v.toInt < lo) (h2 : ¬ hi < v.toInt) (ho : offs[(v.toInt - lo).toNat]? = some off) (ht : (pc : Int) + off = (tgt : Int)) (kt : x = v → AW l G M d mc ms Q k n h lv st tgt) (kf : ¬ x = v → AW l G M d mc ms Q k n h lv (.int x :: st) pc) : AW l G M d mc ms Q k n h lv (.int x :: st) pc := by
  intro p e s m args below meth c H locs ls Z hC hR hS hl hF
  have hx := hC.1
  have hb := hC.2.1
  by_cases z : x = v
  · exact lv_tableIn hx hb hd (by rw [z]; exact h1) (by rw [z]; exact h2) (by rw [z]; exact ho) ht (kt z p e s m args below meth c H locs ls Z hC hR hS hl hF)
  · exact kf z p e s m args below meth c H locs ls Z hC hR hS hl hF
theorem aw_tswo {x : Int32} {dflt lo hi : Int} {offs : Array Int} {len tgt : Nat} (hd : decode M.2.1 pc = .ok (.tableswitch dflt lo hi offs, len)) (h1 : x.toInt < lo ∨ hi < x.toInt) (ht : (pc : Int) + dflt = (tgt : Int)) (kk : AW l G M d mc ms Q k n h lv st tgt) : AW l G M d mc ms Q k n h lv (.int x :: st) pc := by
  intro p e s m args below meth c H locs ls Z hC hR hS hl hF
  have hx := hC.1
  have hb := hC.2.1
  exact lv_tableOut hx hb hd h1 ht (kk p e s m args below meth c H locs ls Z hC hR hS hl hF)
theorem aw_lsw {x v : Int32} {dflt off : Int} {ps : Array (Int × Int)} {len tgt : Nat} (hd : decode M.2.1 pc = .ok (.lookupswitch dflt ps, len)) (hp : (ps.toList.zip (ps.toList.drop 1)).all (fun (a, next) => a.1 < next.1) = true) (ho : Op.lookupswitch.offset ps.toList dflt v.toInt = off) (ht : (pc : Int) + off = (tgt : Int)) (kt : x = v → AW l G M d mc ms Q k n h lv st tgt) (kf : ¬ x = v → AW l G M d mc ms Q k n h lv (.int x :: st) pc) : AW l G M d mc ms Q k n h lv (.int x :: st) pc := by
  intro p e s m args below meth c H locs ls Z hC hR hS hl hF
  have hx := hC.1
  have hb := hC.2.1
  by_cases z : x = v
  · exact lv_lookup hx hb hd hp (by rw [z]; exact ho) ht (kt z p e s m args below meth c H locs ls Z hC hR hS hl hF)
  · exact kf z p e s m args below meth c H locs ls Z hC hR hS hl hF
theorem aw_lswo {x : Int32} {dflt off : Int} {ps : Array (Int × Int)} {len tgt : Nat} (hd : decode M.2.1 pc = .ok (.lookupswitch dflt ps, len)) (hp : (ps.toList.zip (ps.toList.drop 1)).all (fun (a, next) => a.1 < next.1) = true) (ho : Op.lookupswitch.offset ps.toList dflt x.toInt = off) (ht : (pc : Int) + off = (tgt : Int)) (kk : AW l G M d mc ms Q k n h lv st tgt) : AW l G M d mc ms Q k n h lv (.int x :: st) pc := by
  intro p e s m args below meth c H locs ls Z hC hR hS hl hF
  have hx := hC.1
  have hb := hC.2.1
  exact lv_lookup hx hb hd hp ho ht (kk p e s m args below meth c H locs ls Z hC hR hS hl hF)
theorem zne {x v : Int32} {a : Int} (h : ¬ x = v) (hv : v.toInt = a) : ¬ x.toInt = a := lv_neT h hv
/-- more room than was needed -/
theorem aw_widen {k' n' : Nat} (h1 : k ≤ k') (h2 : n ≤ n') (kk : AW l G M d mc ms Q k' n' h lv st pc) : AW l G M d mc ms Q k n h lv st pc := by
  intro p e s m args below meth c H locs ls Z hC hR hS hl hF
  exact W.widen h1 h2 (kk p e s m args below meth c H locs ls Z hC hR hS hl hF)
/-- the end -/
theorem aw_ret {v : Option Value} {i : Instr} (hd : decode M.2.1 pc = .ok (i, 1)) (hz : zri v M.2.2.2.1 i) (h1 : k ≤ mc) (h2 : n ≤ ms) (hst : st = v.toList) (hq : Q v h) : AW l G M d mc ms Q k n h lv st pc := by
  intro p e s m args below meth c H locs ls Z hC hR hS hl hF
  have K := hF v h H locs pc ls i hq hR hS hd hz
  rw [hst, show v.toList.map (zV G) = (v.map (zV G)).toList by cases v <;> rfl]
  exact W.widen (k := mc) (n := ms) h1 h2 K
end ZR
