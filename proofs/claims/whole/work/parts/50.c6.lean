/-! the JDK's own that the class calls -/
section C6
variable {l : Launch} {G : GT} {d n m t : Nat} {h : Hp} {Q : Option Value → Hp → Prop}
def flI (f : Nat → Int32) (x : Int32) (i : Nat) : Nat → Int32 := fun j => if j < i then x else f j
theorem flI_s (f : Nat → Int32) (x : Int32) (i : Nat) : upd (flI f x i) i x = flI f x (i + 1) := by
  funext j
  unfold flI
  rw [upd_if]
  by_cases e : j = i
  · rw [if_pos e, if_pos (by omega)]
  · rw [if_neg e]
    by_cases c : j < i
    · rw [if_pos c, if_pos (by omega)]
    · rw [if_neg c, if_neg (by omega)]
def flJ (f : Nat → Int64) (x : Int64) (i : Nat) : Nat → Int64 := fun j => if j < i then x else f j
theorem flJ_s (f : Nat → Int64) (x : Int64) (i : Nat) : vp_updL (flJ f x i) i x = flJ f x (i + 1) := by
  funext j
  show (if j = i then x else flJ f x i j) = _
  unfold flJ
  by_cases e : j = i
  · rw [if_pos e, if_pos (by omega)]
  · rw [if_neg e]
    by_cases c : j < i
    · rw [if_pos c, if_pos (by omega)]
    · rw [if_neg c, if_neg (by omega)]
def us (x y : Int32) : Int32 := (x.toUInt32 >>> (y.toUInt32 &&& Int32.toUInt32 31)).toInt32
def bc1 (x : Int32) : Int32 := x - (us x 1 &&& 1431655765)
def bc2 (x : Int32) : Int32 := (x &&& 858993459) + (us x 2 &&& 858993459)
def bc3 (x : Int32) : Int32 := (x + us x 4) &&& 252645135
def bc4 (x : Int32) : Int32 := x + us x 8
def bc5 (x : Int32) : Int32 := x + us x 16
def bc (x : Int32) : Int32 := bc5 (bc4 (bc3 (bc2 (bc1 x)))) &&& 63
def wB (b : Nat → Bool) : Nat → Int32
  | 0 => 0
  | i + 1 => wB b i ||| (if b i = true then 1 <<< (nI i &&& 31) else 0)
def cB (b : Nat → Bool) : Nat → Int32
  | 0 => 0
  | i + 1 => cB b i + zb (b i)
theorem bc_B (b : Nat → Bool) : ∀ m, m ≤ 6 → bc (wB b m) = cB b m := by
  intro m hm
  have key : ∀ b0 b1 b2 b3 b4 b5 : Bool, ∀ m ∈ List.range 7, bc (wB (fun k => [b0, b1, b2, b3, b4, b5].getD k false) m) = cB (fun k => [b0, b1, b2, b3, b4, b5].getD k false) m := by decide +kernel
  have z := key (b 0) (b 1) (b 2) (b 3) (b 4) (b 5) m (List.mem_range.mpr (by omega))
  have e : ∀ k, k < 6 → [b 0, b 1, b 2, b 3, b 4, b 5].getD k false = b k := fun k hk => by
    rcases (by omega : k = 0 ∨ k = 1 ∨ k = 2 ∨ k = 3 ∨ k = 4 ∨ k = 5) with rfl | rfl | rfl | rfl | rfl | rfl <;> rfl
  have e1 : ∀ m, m ≤ 6 → wB (fun k => [b 0, b 1, b 2, b 3, b 4, b 5].getD k false) m = wB b m := by
    intro m
    induction m with
    | zero => intro _; rfl
    | succ i ih => intro hi; rw [wB, wB, ih (by omega), e i (by omega)]
  have e2 : ∀ m, m ≤ 6 → cB (fun k => [b 0, b 1, b 2, b 3, b 4, b 5].getD k false) m = cB b m := by
    intro m
    induction m with
    | zero => intro _; rfl
    | succ i ih => intro hi; rw [cB, cB, ih (by omega), e i (by omega)]
  rw [e1 m hm, e2 m hm] at z
  exact z
theorem sWhich_B (g : Nat → Int32) (s : Int32) : ∀ m, sWhich g s m = wB (fun k => decide (g (10 * k + 3) = s)) m
  | 0 => rfl
  | i + 1 => by
    rw [sWhich, wB, sWhich_B g s i]
    simp only [decide_eq_true_eq]
theorem sCnt_B (g : Nat → Int32) (s : Int32) : ∀ m, sCnt g s m = cB (fun k => decide (g (10 * k + 3) = s)) m
  | 0 => rfl
  | i + 1 => by rw [sCnt, cB, sCnt_B g s i]
theorem bc_which {g : Nat → Int32} {s : Int32} {m : Nat} (hm : m ≤ 6) : bc (sWhich g s m) = sCnt g s m := by
  rw [sWhich_B, sCnt_B]
  exact bc_B _ m hm
theorem str_b : ∀ i ∈ List.range 6, ∀ j ∈ List.range (sLen.getD i 0), ((((sByt.getD i []).getD j 0) &&& 255).toUInt32 % 65536).toInt32 = (sByt.getD i []).getD j 0 ∧ narrow .char (.int ((sByt.getD i []).getD j 0)) = .int ((sByt.getD i []).getD j 0) := by decide +kernel
theorem str_l : ∀ i ∈ List.range 6, sLen.getD i 0 < 2147483648 ∧ nI (sLen.getD i 0) >>> ((0 : Int32) &&& 31) = nI (sLen.getD i 0) := by decide +kernel
def ixF (c : Int32) : Nat → Int32
  | 0 => -1
  | k + 1 => if (sByt.getD 0 []).getD (6 - (k + 1)) 0 = c then nI (6 - (k + 1)) else ixF c k
theorem asc : ∀ k ∈ List.range 128, (nI k).toInt8.toInt32 = nI k ∧ ((nI k).toUInt32 % 65536).toInt32 = nI k := by decide +kernel
theorem asc8 {k : Nat} (h : k < 128) : (nI k).toInt8.toInt32 = nI k := (asc k (List.mem_range.mpr h)).1
theorem asc16 {k : Nat} (h : k < 128) : ((nI k).toUInt32 % 65536).toInt32 = nI k := (asc k (List.mem_range.mpr h)).2

abbrev mJ7_fill_53178 : MT := (RJ7, cJ7_fill_53178, 4, none, false)
theorem eJ7_fill_53178_0 : decode mJ7_fill_53178.2.1 0 = .ok (.iconst 0, 1) := by decide +kernel
theorem eJ7_fill_53178_1 : decode mJ7_fill_53178.2.1 1 = .ok (.istore_n 2, 1) := by decide +kernel
theorem eJ7_fill_53178_2 : decode mJ7_fill_53178.2.1 2 = .ok (.aload_n 0, 1) := by decide +kernel
theorem eJ7_fill_53178_3 : decode mJ7_fill_53178.2.1 3 = .ok (.arraylength, 1) := by decide +kernel
theorem eJ7_fill_53178_4 : decode mJ7_fill_53178.2.1 4 = .ok (.istore_n 3, 1) := by decide +kernel
theorem eJ7_fill_53178_5 : decode mJ7_fill_53178.2.1 5 = .ok (.iload_n 2, 1) := by decide +kernel
theorem eJ7_fill_53178_6 : decode mJ7_fill_53178.2.1 6 = .ok (.iload_n 3, 1) := by decide +kernel
theorem eJ7_fill_53178_7 : decode mJ7_fill_53178.2.1 7 = .ok (.if_icmp .ge 13, 3) := by decide +kernel
theorem eJ7_fill_53178_10 : decode mJ7_fill_53178.2.1 10 = .ok (.aload_n 0, 1) := by decide +kernel
theorem eJ7_fill_53178_11 : decode mJ7_fill_53178.2.1 11 = .ok (.iload_n 2, 1) := by decide +kernel
theorem eJ7_fill_53178_12 : decode mJ7_fill_53178.2.1 12 = .ok (.iload_n 1, 1) := by decide +kernel
theorem eJ7_fill_53178_13 : decode mJ7_fill_53178.2.1 13 = .ok (.iastore, 1) := by decide +kernel
theorem eJ7_fill_53178_14 : decode mJ7_fill_53178.2.1 14 = .ok (.iinc 2 1, 3) := by decide +kernel
theorem eJ7_fill_53178_17 : decode mJ7_fill_53178.2.1 17 = .ok (.goto (-12), 3) := by decide +kernel
theorem eJ7_fill_53178_20 : decode mJ7_fill_53178.2.1 20 = .ok (.return_, 1) := by decide +kernel
theorem lp_J7_fill_53178 {b N : Nat} (hN : N < 2147483648) {f : Nat → Int32} {x : Int32} {h0 : Hp} (hQ : ∀ h', OA h' b (.inl (0, (N, .inl (flI f x N)))) → Same b 1 h0 h' → Q none h') : ∀ (j i : Nat) (y : Int32) (h : Hp), j = N - i → i ≤ N → y = nI i → OA h b (.inl (0, (N, .inl (flI f x i)))) → Same b 1 h0 h → AW l G mJ7_fill_53178 d 0 0 Q 0 0 h [some (.ref b), some (.int x), some (.int y), some (.int (nI N))] [] 5 := by
  intro j
  induction j using Nat.strongRecOn with
  | _ j ih =>
    intro i y h hj hi hy hA hs
    subst hy
    refine aw_iload_n (pc' := 6) eJ7_fill_53178_5 rfl rfl ?_
    refine aw_iload_n (pc' := 7) eJ7_fill_53178_6 rfl rfl ?_
    refine aw_icmp_ge (pc' := 10) (tgt := 20) eJ7_fill_53178_7 rfl (by decide) (fun c_7 => ?_) (fun c_7 => ?_)
    · have c9 := ge_nI (by omega) (by omega) c_7
      obtain rfl : i = N := by omega
      refine aw_ret (v := none) eJ7_fill_53178_20 rfl (by omega) (by omega) rfl ?_
      exact hQ _ hA hs
    · have c9 := nge_nI (by omega) (by omega) c_7
      refine aw_aload_n (pc' := 11) eJ7_fill_53178_10 rfl rfl trivial ?_
      refine aw_iload_n (pc' := 12) eJ7_fill_53178_11 rfl rfl ?_
      refine aw_iload_n (pc' := 13) eJ7_fill_53178_12 rfl rfl ?_
      refine aw_Ais (pc' := 14) i hA eJ7_fill_53178_13 rfl (show vp_in _ (N) from vp_in_nI (by omega) (by omega)) (nI_clamp (by omega)) (fun h3 hA1 hs2 => ?_)
      refine aw_iinc (pc' := 17) eJ7_fill_53178_14 rfl rfl rfl (by decide) ?_
      dsimp only [zst, zst2, zcut]
      refine aw_goto eJ7_fill_53178_17 (by decide) (tgt := 5) ?_
      exact ih (N - (i + 1)) (by omega) (i + 1) _ _ rfl (by omega) (nI_inc i) (by rw [← flI_s]; exact hA1) (hs.tr hs2)
theorem c_J7_fill_53178 {b N : Nat} (hN : N < 2147483648) {f : Nat → Int32} (x : Int32) (hA : OA h b (.inl (0, (N, .inl f)))) (hd : 0 ≤ d) : Ct l G mJ7_fill_53178 yJ7_fill_53178 d 0 0 [.ref b, .int x] h (fun r h' => r = none ∧ ∃ f', (∀ i, i < N → f' i = x) ∧ OA h' b (.inl (0, (N, .inl f'))) ∧ Same b 1 h h') := by
  refine ct_of (lv := [some (.ref b), some (.int x), none, none]) (by decide +kernel) rfl (fun z => by cases z) (fun _ => rfl) (fun _ => Nat.le_of_ble_eq_true rfl) ?_
  refine aw_iconst (pc' := 1) (v := 0) eJ7_fill_53178_0 rfl (by decide) ?_
  refine aw_istore_n (pc' := 2) eJ7_fill_53178_1 rfl (by decide) ?_
  dsimp only [zst, zst2, zcut]
  refine aw_aload_n (pc' := 3) eJ7_fill_53178_2 rfl rfl trivial ?_
  refine aw_Alen (pc' := 4) hA eJ7_fill_53178_3 rfl (by decide) ?_
  refine aw_istore_n (pc' := 5) eJ7_fill_53178_4 rfl (by decide) ?_
  dsimp only [zst, zst2, zcut]
  refine lp_J7_fill_53178 (f := f) hN (fun h' a b => ⟨rfl, _, fun i hi => if_pos hi, a, b⟩) N 0 _ _ (by omega) (by omega) rfl ?_ Same.rf
  · rw [show flI f x 0 = f from funext fun j => if_neg (Nat.not_lt_zero j)]
    exact hA
abbrev mJ7_fill_d0a16 : MT := (RJ7, cJ7_fill_d0a16, 5, none, false)
theorem eJ7_fill_d0a16_0 : decode mJ7_fill_d0a16.2.1 0 = .ok (.iconst 0, 1) := by decide +kernel
theorem eJ7_fill_d0a16_1 : decode mJ7_fill_d0a16.2.1 1 = .ok (.istore_n 3, 1) := by decide +kernel
theorem eJ7_fill_d0a16_2 : decode mJ7_fill_d0a16.2.1 2 = .ok (.aload_n 0, 1) := by decide +kernel
theorem eJ7_fill_d0a16_3 : decode mJ7_fill_d0a16.2.1 3 = .ok (.arraylength, 1) := by decide +kernel
theorem eJ7_fill_d0a16_4 : decode mJ7_fill_d0a16.2.1 4 = .ok (.istore 4, 2) := by decide +kernel
theorem eJ7_fill_d0a16_6 : decode mJ7_fill_d0a16.2.1 6 = .ok (.iload_n 3, 1) := by decide +kernel
theorem eJ7_fill_d0a16_7 : decode mJ7_fill_d0a16.2.1 7 = .ok (.iload 4, 2) := by decide +kernel
theorem eJ7_fill_d0a16_9 : decode mJ7_fill_d0a16.2.1 9 = .ok (.if_icmp .ge 13, 3) := by decide +kernel
theorem eJ7_fill_d0a16_12 : decode mJ7_fill_d0a16.2.1 12 = .ok (.aload_n 0, 1) := by decide +kernel
theorem eJ7_fill_d0a16_13 : decode mJ7_fill_d0a16.2.1 13 = .ok (.iload_n 3, 1) := by decide +kernel
theorem eJ7_fill_d0a16_14 : decode mJ7_fill_d0a16.2.1 14 = .ok (.lload_n 1, 1) := by decide +kernel
theorem eJ7_fill_d0a16_15 : decode mJ7_fill_d0a16.2.1 15 = .ok (.lastore, 1) := by decide +kernel
theorem eJ7_fill_d0a16_16 : decode mJ7_fill_d0a16.2.1 16 = .ok (.iinc 3 1, 3) := by decide +kernel
theorem eJ7_fill_d0a16_19 : decode mJ7_fill_d0a16.2.1 19 = .ok (.goto (-13), 3) := by decide +kernel
theorem eJ7_fill_d0a16_22 : decode mJ7_fill_d0a16.2.1 22 = .ok (.return_, 1) := by decide +kernel
theorem lp_J7_fill_d0a16 {b N : Nat} (hN : N < 2147483648) {f : Nat → Int64} {x : Int64} {h0 : Hp} (hQ : ∀ h', OA h' b (.inl (3, (N, .inr (.inl (flJ f x N))))) → Same b 1 h0 h' → Q none h') : ∀ (j i : Nat) (y : Int32) (h : Hp), j = N - i → i ≤ N → y = nI i → OA h b (.inl (3, (N, .inr (.inl (flJ f x i))))) → Same b 1 h0 h → AW l G mJ7_fill_d0a16 d 0 0 Q 0 0 h [some (.ref b), some (.long x), none, some (.int y), some (.int (nI N))] [] 6 := by
  intro j
  induction j using Nat.strongRecOn with
  | _ j ih =>
    intro i y h hj hi hy hA hs
    subst hy
    refine aw_iload_n (pc' := 7) eJ7_fill_d0a16_6 rfl rfl ?_
    refine aw_iload (pc' := 9) eJ7_fill_d0a16_7 rfl rfl ?_
    refine aw_icmp_ge (pc' := 12) (tgt := 22) eJ7_fill_d0a16_9 rfl (by decide) (fun c_9 => ?_) (fun c_9 => ?_)
    · have c9 := ge_nI (by omega) (by omega) c_9
      obtain rfl : i = N := by omega
      refine aw_ret (v := none) eJ7_fill_d0a16_22 rfl (by omega) (by omega) rfl ?_
      exact hQ _ hA hs
    · have c9 := nge_nI (by omega) (by omega) c_9
      refine aw_aload_n (pc' := 13) eJ7_fill_d0a16_12 rfl rfl trivial ?_
      refine aw_iload_n (pc' := 14) eJ7_fill_d0a16_13 rfl rfl ?_
      refine aw_lload_n (pc' := 15) eJ7_fill_d0a16_14 rfl rfl ?_
      refine aw_Ajs (pc' := 16) i hA eJ7_fill_d0a16_15 rfl (show vp_in _ (N) from vp_in_nI (by omega) (by omega)) (nI_clamp (by omega)) (fun h3 hA1 hs2 => ?_)
      refine aw_iinc (pc' := 19) eJ7_fill_d0a16_16 rfl rfl rfl (by decide) ?_
      dsimp only [zst, zst2, zcut]
      refine aw_goto eJ7_fill_d0a16_19 (by decide) (tgt := 6) ?_
      exact ih (N - (i + 1)) (by omega) (i + 1) _ _ rfl (by omega) (nI_inc i) (by rw [← flJ_s]; exact hA1) (hs.tr hs2)
theorem c_J7_fill_d0a16 {b N : Nat} (hN : N < 2147483648) {f : Nat → Int64} (x : Int64) (hA : OA h b (.inl (3, (N, .inr (.inl f))))) (hd : 0 ≤ d) : Ct l G mJ7_fill_d0a16 yJ7_fill_d0a16 d 0 0 [.ref b, .long x] h (fun r h' => r = none ∧ ∃ f', (∀ i, i < N → f' i = x) ∧ OA h' b (.inl (3, (N, .inr (.inl f')))) ∧ Same b 1 h h') := by
  refine ct_of (lv := [some (.ref b), some (.long x), none, none, none]) (by decide +kernel) rfl (fun z => by cases z) (fun _ => rfl) (fun _ => Nat.le_of_ble_eq_true rfl) ?_
  refine aw_iconst (pc' := 1) (v := 0) eJ7_fill_d0a16_0 rfl (by decide) ?_
  refine aw_istore_n (pc' := 2) eJ7_fill_d0a16_1 rfl (by decide) ?_
  dsimp only [zst, zst2, zcut]
  refine aw_aload_n (pc' := 3) eJ7_fill_d0a16_2 rfl rfl trivial ?_
  refine aw_Alen (pc' := 4) hA eJ7_fill_d0a16_3 rfl (by decide) ?_
  refine aw_istore (pc' := 6) eJ7_fill_d0a16_4 rfl (by decide) ?_
  dsimp only [zst, zst2, zcut]
  refine lp_J7_fill_d0a16 (f := f) hN (fun h' a b => ⟨rfl, _, fun i hi => if_pos hi, a, b⟩) N 0 _ _ (by omega) (by omega) rfl ?_ Same.rf
  · rw [show flJ f x 0 = f from funext fun j => if_neg (Nat.not_lt_zero j)]
    exact hA
abbrev mJ6_bitCount_0f7a4 : MT := (RJ6, cJ6_bitCount_0f7a4, 1, (some .int), false)
theorem eJ6_bitCount_0f7a4_0 : decode mJ6_bitCount_0f7a4.2.1 0 = .ok (.iload_n 0, 1) := by decide +kernel
theorem eJ6_bitCount_0f7a4_1 : decode mJ6_bitCount_0f7a4.2.1 1 = .ok (.iload_n 0, 1) := by decide +kernel
theorem eJ6_bitCount_0f7a4_2 : decode mJ6_bitCount_0f7a4.2.1 2 = .ok (.iconst 1, 1) := by decide +kernel
theorem eJ6_bitCount_0f7a4_3 : decode mJ6_bitCount_0f7a4.2.1 3 = .ok (.iushr, 1) := by decide +kernel
theorem eJ6_bitCount_0f7a4_4 : decode mJ6_bitCount_0f7a4.2.1 4 = .ok (.ldc_w 265, 3) := by decide +kernel
theorem eJ6_bitCount_0f7a4_7 : decode mJ6_bitCount_0f7a4.2.1 7 = .ok (.iand, 1) := by decide +kernel
theorem eJ6_bitCount_0f7a4_8 : decode mJ6_bitCount_0f7a4.2.1 8 = .ok (.isub, 1) := by decide +kernel
theorem eJ6_bitCount_0f7a4_9 : decode mJ6_bitCount_0f7a4.2.1 9 = .ok (.istore_n 0, 1) := by decide +kernel
theorem eJ6_bitCount_0f7a4_10 : decode mJ6_bitCount_0f7a4.2.1 10 = .ok (.iload_n 0, 1) := by decide +kernel
theorem eJ6_bitCount_0f7a4_11 : decode mJ6_bitCount_0f7a4.2.1 11 = .ok (.ldc_w 266, 3) := by decide +kernel
theorem eJ6_bitCount_0f7a4_14 : decode mJ6_bitCount_0f7a4.2.1 14 = .ok (.iand, 1) := by decide +kernel
theorem eJ6_bitCount_0f7a4_15 : decode mJ6_bitCount_0f7a4.2.1 15 = .ok (.iload_n 0, 1) := by decide +kernel
theorem eJ6_bitCount_0f7a4_16 : decode mJ6_bitCount_0f7a4.2.1 16 = .ok (.iconst 2, 1) := by decide +kernel
theorem eJ6_bitCount_0f7a4_17 : decode mJ6_bitCount_0f7a4.2.1 17 = .ok (.iushr, 1) := by decide +kernel
theorem eJ6_bitCount_0f7a4_18 : decode mJ6_bitCount_0f7a4.2.1 18 = .ok (.ldc_w 266, 3) := by decide +kernel
theorem eJ6_bitCount_0f7a4_21 : decode mJ6_bitCount_0f7a4.2.1 21 = .ok (.iand, 1) := by decide +kernel
theorem eJ6_bitCount_0f7a4_22 : decode mJ6_bitCount_0f7a4.2.1 22 = .ok (.iadd, 1) := by decide +kernel
theorem eJ6_bitCount_0f7a4_23 : decode mJ6_bitCount_0f7a4.2.1 23 = .ok (.istore_n 0, 1) := by decide +kernel
theorem eJ6_bitCount_0f7a4_24 : decode mJ6_bitCount_0f7a4.2.1 24 = .ok (.iload_n 0, 1) := by decide +kernel
theorem eJ6_bitCount_0f7a4_25 : decode mJ6_bitCount_0f7a4.2.1 25 = .ok (.iload_n 0, 1) := by decide +kernel
theorem eJ6_bitCount_0f7a4_26 : decode mJ6_bitCount_0f7a4.2.1 26 = .ok (.iconst 4, 1) := by decide +kernel
theorem eJ6_bitCount_0f7a4_27 : decode mJ6_bitCount_0f7a4.2.1 27 = .ok (.iushr, 1) := by decide +kernel
theorem eJ6_bitCount_0f7a4_28 : decode mJ6_bitCount_0f7a4.2.1 28 = .ok (.iadd, 1) := by decide +kernel
theorem eJ6_bitCount_0f7a4_29 : decode mJ6_bitCount_0f7a4.2.1 29 = .ok (.ldc_w 267, 3) := by decide +kernel
theorem eJ6_bitCount_0f7a4_32 : decode mJ6_bitCount_0f7a4.2.1 32 = .ok (.iand, 1) := by decide +kernel
theorem eJ6_bitCount_0f7a4_33 : decode mJ6_bitCount_0f7a4.2.1 33 = .ok (.istore_n 0, 1) := by decide +kernel
theorem eJ6_bitCount_0f7a4_34 : decode mJ6_bitCount_0f7a4.2.1 34 = .ok (.iload_n 0, 1) := by decide +kernel
theorem eJ6_bitCount_0f7a4_35 : decode mJ6_bitCount_0f7a4.2.1 35 = .ok (.iload_n 0, 1) := by decide +kernel
theorem eJ6_bitCount_0f7a4_36 : decode mJ6_bitCount_0f7a4.2.1 36 = .ok (.bipush 8, 2) := by decide +kernel
theorem eJ6_bitCount_0f7a4_38 : decode mJ6_bitCount_0f7a4.2.1 38 = .ok (.iushr, 1) := by decide +kernel
theorem eJ6_bitCount_0f7a4_39 : decode mJ6_bitCount_0f7a4.2.1 39 = .ok (.iadd, 1) := by decide +kernel
theorem eJ6_bitCount_0f7a4_40 : decode mJ6_bitCount_0f7a4.2.1 40 = .ok (.istore_n 0, 1) := by decide +kernel
theorem eJ6_bitCount_0f7a4_41 : decode mJ6_bitCount_0f7a4.2.1 41 = .ok (.iload_n 0, 1) := by decide +kernel
theorem eJ6_bitCount_0f7a4_42 : decode mJ6_bitCount_0f7a4.2.1 42 = .ok (.iload_n 0, 1) := by decide +kernel
theorem eJ6_bitCount_0f7a4_43 : decode mJ6_bitCount_0f7a4.2.1 43 = .ok (.bipush 16, 2) := by decide +kernel
theorem eJ6_bitCount_0f7a4_45 : decode mJ6_bitCount_0f7a4.2.1 45 = .ok (.iushr, 1) := by decide +kernel
theorem eJ6_bitCount_0f7a4_46 : decode mJ6_bitCount_0f7a4.2.1 46 = .ok (.iadd, 1) := by decide +kernel
theorem eJ6_bitCount_0f7a4_47 : decode mJ6_bitCount_0f7a4.2.1 47 = .ok (.istore_n 0, 1) := by decide +kernel
theorem eJ6_bitCount_0f7a4_48 : decode mJ6_bitCount_0f7a4.2.1 48 = .ok (.iload_n 0, 1) := by decide +kernel
theorem eJ6_bitCount_0f7a4_49 : decode mJ6_bitCount_0f7a4.2.1 49 = .ok (.bipush 63, 2) := by decide +kernel
theorem eJ6_bitCount_0f7a4_51 : decode mJ6_bitCount_0f7a4.2.1 51 = .ok (.iand, 1) := by decide +kernel
theorem eJ6_bitCount_0f7a4_52 : decode mJ6_bitCount_0f7a4.2.1 52 = .ok (.ireturn, 1) := by decide +kernel
theorem c_J6_bitCount_0f7a4 (x : Int32) (hd : 0 ≤ d) : Ct l G mJ6_bitCount_0f7a4 yJ6_bitCount_0f7a4 d 0 0 [.int x] h (fun r h' => r = some (.int (bc x)) ∧ h' = h) := by
  refine ct_of (lv := [some (.int x)]) (by decide +kernel) rfl (fun z => by cases z) (fun _ => rfl) (fun _ => Nat.le_of_ble_eq_true rfl) ?_
  refine aw_iload_n (pc' := 1) eJ6_bitCount_0f7a4_0 rfl rfl ?_
  refine aw_iload_n (pc' := 2) eJ6_bitCount_0f7a4_1 rfl rfl ?_
  refine aw_iconst (pc' := 3) (v := 1) eJ6_bitCount_0f7a4_2 rfl (by decide) ?_
  refine aw_iushr (pc' := 4) eJ6_bitCount_0f7a4_3 rfl ?_
  refine aw_ldcw (pc' := 7) eJ6_bitCount_0f7a4_4 rfl q382 ?_
  refine aw_iand (pc' := 8) eJ6_bitCount_0f7a4_7 rfl ?_
  refine aw_isub (pc' := 9) eJ6_bitCount_0f7a4_8 rfl ?_
  refine aw_istore_n (pc' := 10) eJ6_bitCount_0f7a4_9 rfl (by decide) ?_
  dsimp only [zst, zst2, zcut]
  refine aw_iload_n (pc' := 11) eJ6_bitCount_0f7a4_10 rfl rfl ?_
  refine aw_ldcw (pc' := 14) eJ6_bitCount_0f7a4_11 rfl q383 ?_
  refine aw_iand (pc' := 15) eJ6_bitCount_0f7a4_14 rfl ?_
  refine aw_iload_n (pc' := 16) eJ6_bitCount_0f7a4_15 rfl rfl ?_
  refine aw_iconst (pc' := 17) (v := 2) eJ6_bitCount_0f7a4_16 rfl (by decide) ?_
  refine aw_iushr (pc' := 18) eJ6_bitCount_0f7a4_17 rfl ?_
  refine aw_ldcw (pc' := 21) eJ6_bitCount_0f7a4_18 rfl q383 ?_
  refine aw_iand (pc' := 22) eJ6_bitCount_0f7a4_21 rfl ?_
  refine aw_iadd (pc' := 23) eJ6_bitCount_0f7a4_22 rfl ?_
  refine aw_istore_n (pc' := 24) eJ6_bitCount_0f7a4_23 rfl (by decide) ?_
  dsimp only [zst, zst2, zcut]
  refine aw_iload_n (pc' := 25) eJ6_bitCount_0f7a4_24 rfl rfl ?_
  refine aw_iload_n (pc' := 26) eJ6_bitCount_0f7a4_25 rfl rfl ?_
  refine aw_iconst (pc' := 27) (v := 4) eJ6_bitCount_0f7a4_26 rfl (by decide) ?_
  refine aw_iushr (pc' := 28) eJ6_bitCount_0f7a4_27 rfl ?_
  refine aw_iadd (pc' := 29) eJ6_bitCount_0f7a4_28 rfl ?_
  refine aw_ldcw (pc' := 32) eJ6_bitCount_0f7a4_29 rfl q384 ?_
  refine aw_iand (pc' := 33) eJ6_bitCount_0f7a4_32 rfl ?_
  refine aw_istore_n (pc' := 34) eJ6_bitCount_0f7a4_33 rfl (by decide) ?_
  dsimp only [zst, zst2, zcut]
  refine aw_iload_n (pc' := 35) eJ6_bitCount_0f7a4_34 rfl rfl ?_
  refine aw_iload_n (pc' := 36) eJ6_bitCount_0f7a4_35 rfl rfl ?_
  refine aw_bipush (pc' := 38) (v := 8) eJ6_bitCount_0f7a4_36 rfl (by decide) ?_
  refine aw_iushr (pc' := 39) eJ6_bitCount_0f7a4_38 rfl ?_
  refine aw_iadd (pc' := 40) eJ6_bitCount_0f7a4_39 rfl ?_
  refine aw_istore_n (pc' := 41) eJ6_bitCount_0f7a4_40 rfl (by decide) ?_
  dsimp only [zst, zst2, zcut]
  refine aw_iload_n (pc' := 42) eJ6_bitCount_0f7a4_41 rfl rfl ?_
  refine aw_iload_n (pc' := 43) eJ6_bitCount_0f7a4_42 rfl rfl ?_
  refine aw_bipush (pc' := 45) (v := 16) eJ6_bitCount_0f7a4_43 rfl (by decide) ?_
  refine aw_iushr (pc' := 46) eJ6_bitCount_0f7a4_45 rfl ?_
  refine aw_iadd (pc' := 47) eJ6_bitCount_0f7a4_46 rfl ?_
  refine aw_istore_n (pc' := 48) eJ6_bitCount_0f7a4_47 rfl (by decide) ?_
  dsimp only [zst, zst2, zcut]
  refine aw_iload_n (pc' := 49) eJ6_bitCount_0f7a4_48 rfl rfl ?_
  refine aw_bipush (pc' := 51) (v := 63) eJ6_bitCount_0f7a4_49 rfl (by decide) ?_
  refine aw_iand (pc' := 52) eJ6_bitCount_0f7a4_51 rfl ?_
  refine aw_ret (v := some (.int _)) eJ6_bitCount_0f7a4_52 ⟨rfl, rfl⟩ (by omega) (by omega) rfl ?_
  exact ⟨rfl, rfl⟩
abbrev mJ0_coder_7d493 : MT := (RJ0, cJ0_coder_7d493, 1, (some .byte), false)
theorem eJ0_coder_7d493_0 : decode mJ0_coder_7d493.2.1 0 = .ok (.getstatic 38, 3) := by decide +kernel
theorem eJ0_coder_7d493_3 : decode mJ0_coder_7d493.2.1 3 = .ok (.ifCond .eq 10, 3) := by decide +kernel
theorem eJ0_coder_7d493_6 : decode mJ0_coder_7d493.2.1 6 = .ok (.aload_n 0, 1) := by decide +kernel
theorem eJ0_coder_7d493_7 : decode mJ0_coder_7d493.2.1 7 = .ok (.getfield 15, 3) := by decide +kernel
theorem eJ0_coder_7d493_10 : decode mJ0_coder_7d493.2.1 10 = .ok (.goto 4, 3) := by decide +kernel
theorem eJ0_coder_7d493_13 : decode mJ0_coder_7d493.2.1 13 = .ok (.iconst 1, 1) := by decide +kernel
theorem eJ0_coder_7d493_14 : decode mJ0_coder_7d493.2.1 14 = .ok (.ireturn, 1) := by decide +kernel
theorem c_J0_coder_7d493 {i : Nat} (hi : i < 6) (hd : 0 ≤ d) : Ct l G mJ0_coder_7d493 yJ0_coder_7d493 d 0 0 [.ref (3 + i)] h (fun r h' => r = some (.int 0) ∧ h' = h) := by
  refine ct_of (lv := [some (.ref (3 + i))]) (by decide +kernel) rfl (fun z => by cases z) (fun _ => rfl) (fun _ => Nat.le_of_ble_eq_true rfl) ?_
  refine aw_getC (pc' := 3) eJ0_coder_7d493_0 rfl q95 ?_
  refine aw_if_eq (pc' := 6) (tgt := 13) eJ0_coder_7d493_3 rfl (by decide) (fun c_3 => ?_) (fun c_3 => ?_)
  · exact absurd c_3 (by decide)
  · refine aw_aload_n (pc' := 7) eJ0_coder_7d493_6 rfl rfl trivial ?_
    refine aw_Scod (pc' := 10) (i := i) (by omega) rfl eJ0_coder_7d493_7 rfl q1167 ?_
    refine aw_goto eJ0_coder_7d493_10 (by decide) (tgt := 14) ?_
    refine aw_ret (v := some (.int _)) eJ0_coder_7d493_14 ⟨rfl, rfl⟩ (by omega) (by omega) rfl ?_
    exact ⟨rfl, rfl⟩
abbrev mJ0_isLatin1_aae02 : MT := (RJ0, cJ0_isLatin1_aae02, 1, (some .boolean), false)
theorem eJ0_isLatin1_aae02_0 : decode mJ0_isLatin1_aae02.2.1 0 = .ok (.getstatic 38, 3) := by decide +kernel
theorem eJ0_isLatin1_aae02_3 : decode mJ0_isLatin1_aae02.2.1 3 = .ok (.ifCond .eq 14, 3) := by decide +kernel
theorem eJ0_isLatin1_aae02_6 : decode mJ0_isLatin1_aae02.2.1 6 = .ok (.aload_n 0, 1) := by decide +kernel
theorem eJ0_isLatin1_aae02_7 : decode mJ0_isLatin1_aae02.2.1 7 = .ok (.getfield 15, 3) := by decide +kernel
theorem eJ0_isLatin1_aae02_10 : decode mJ0_isLatin1_aae02.2.1 10 = .ok (.ifCond .ne 7, 3) := by decide +kernel
theorem eJ0_isLatin1_aae02_13 : decode mJ0_isLatin1_aae02.2.1 13 = .ok (.iconst 1, 1) := by decide +kernel
theorem eJ0_isLatin1_aae02_14 : decode mJ0_isLatin1_aae02.2.1 14 = .ok (.goto 4, 3) := by decide +kernel
theorem eJ0_isLatin1_aae02_17 : decode mJ0_isLatin1_aae02.2.1 17 = .ok (.iconst 0, 1) := by decide +kernel
theorem eJ0_isLatin1_aae02_18 : decode mJ0_isLatin1_aae02.2.1 18 = .ok (.ireturn, 1) := by decide +kernel
theorem c_J0_isLatin1_aae02 {i : Nat} (hi : i < 6) (hd : 0 ≤ d) : Ct l G mJ0_isLatin1_aae02 yJ0_isLatin1_aae02 d 0 0 [.ref (3 + i)] h (fun r h' => r = some (.int 1) ∧ h' = h) := by
  refine ct_of (lv := [some (.ref (3 + i))]) (by decide +kernel) rfl (fun z => by cases z) (fun _ => rfl) (fun _ => Nat.le_of_ble_eq_true rfl) ?_
  refine aw_getC (pc' := 3) eJ0_isLatin1_aae02_0 rfl q95 ?_
  refine aw_if_eq (pc' := 6) (tgt := 17) eJ0_isLatin1_aae02_3 rfl (by decide) (fun c_3 => ?_) (fun c_3 => ?_)
  · exact absurd c_3 (by decide)
  · refine aw_aload_n (pc' := 7) eJ0_isLatin1_aae02_6 rfl rfl trivial ?_
    refine aw_Scod (pc' := 10) (i := i) (by omega) rfl eJ0_isLatin1_aae02_7 rfl q1167 ?_
    refine aw_if_ne (pc' := 13) (tgt := 17) eJ0_isLatin1_aae02_10 rfl (by decide) (fun c_10 => ?_) (fun c_10 => ?_)
    · exact absurd c_10 (by decide)
    · refine aw_iconst (pc' := 14) (v := 1) eJ0_isLatin1_aae02_13 rfl (by decide) ?_
      refine aw_goto eJ0_isLatin1_aae02_14 (by decide) (tgt := 18) ?_
      refine aw_ret (v := some (.int _)) eJ0_isLatin1_aae02_18 ⟨rfl, rfl⟩ (by omega) (by omega) rfl ?_
      exact ⟨rfl, rfl⟩
abbrev mJ0_length_8abf5 : MT := (RJ0, cJ0_length_8abf5, 1, (some .int), false)
theorem eJ0_length_8abf5_0 : decode mJ0_length_8abf5.2.1 0 = .ok (.aload_n 0, 1) := by decide +kernel
theorem eJ0_length_8abf5_1 : decode mJ0_length_8abf5.2.1 1 = .ok (.getfield 9, 3) := by decide +kernel
theorem eJ0_length_8abf5_4 : decode mJ0_length_8abf5.2.1 4 = .ok (.arraylength, 1) := by decide +kernel
theorem eJ0_length_8abf5_5 : decode mJ0_length_8abf5.2.1 5 = .ok (.aload_n 0, 1) := by decide +kernel
theorem eJ0_length_8abf5_6 : decode mJ0_length_8abf5.2.1 6 = .ok (.invokevirtual 335, 3) := by decide +kernel
theorem eJ0_length_8abf5_9 : decode mJ0_length_8abf5.2.1 9 = .ok (.ishr, 1) := by decide +kernel
theorem eJ0_length_8abf5_10 : decode mJ0_length_8abf5.2.1 10 = .ok (.ireturn, 1) := by decide +kernel
theorem c_J0_length_8abf5 {i : Nat} (hi : i < 6) (hd : 1 ≤ d) : Ct l G mJ0_length_8abf5 yJ0_length_8abf5 d 0 0 [.ref (3 + i)] h (fun r h' => r = some (.int (nI (sLen.getD i 0))) ∧ h' = h) := by
  refine ct_of (lv := [some (.ref (3 + i))]) (by decide +kernel) rfl (fun z => by cases z) (fun _ => rfl) (fun _ => Nat.le_of_ble_eq_true rfl) ?_
  refine aw_aload_n (pc' := 1) eJ0_length_8abf5_0 rfl rfl trivial ?_
  refine aw_Sval (pc' := 4) (i := i) (by omega) rfl eJ0_length_8abf5_1 rfl q1166 ?_
  refine aw_Slen (pc' := 5) (i := i) (by omega) eJ0_length_8abf5_4 rfl ?_
  refine aw_aload_n (pc' := 6) eJ0_length_8abf5_5 rfl rfl trivial ?_
  refine aw_callS (pc' := 9) (nn := 0) (c_J0_coder_7d493 (d := d - 1) hi (by omega)) eJ0_length_8abf5_6 rfl ⟨q91, q94, q57⟩ q92 q93 ⟨rfl, by decide +kernel, by decide +kernel, by decide +kernel⟩ rfl ⟨by omega, by omega⟩ ⟨by omega, by decide⟩ ⟨by omega, by omega⟩ rfl (Nat.le_of_ble_eq_true rfl) (fun v1 h2 hq3 => ?_)
  obtain ⟨rfl, rfl⟩ := hq3
  dsimp only [Option.toList, List.cons_append, List.nil_append]
  have z := str_l i (List.mem_range.mpr hi)
  refine aw_ishr (pc' := 10) eJ0_length_8abf5_9 rfl ?_
  refine aw_ret (v := some (.int _)) eJ0_length_8abf5_10 ⟨rfl, rfl⟩ (by omega) (by omega) rfl ?_
  exact ⟨by rw [z.2], rfl⟩
abbrev mJ3_checkIndex_8e157 : MT := (RJ3, cJ3_checkIndex_8e157, 3, (some .int), false)
theorem eJ3_checkIndex_8e157_0 : decode mJ3_checkIndex_8e157.2.1 0 = .ok (.iload_n 0, 1) := by decide +kernel
theorem eJ3_checkIndex_8e157_1 : decode mJ3_checkIndex_8e157.2.1 1 = .ok (.ifCond .lt 8, 3) := by decide +kernel
theorem eJ3_checkIndex_8e157_4 : decode mJ3_checkIndex_8e157.2.1 4 = .ok (.iload_n 0, 1) := by decide +kernel
theorem eJ3_checkIndex_8e157_5 : decode mJ3_checkIndex_8e157.2.1 5 = .ok (.iload_n 1, 1) := by decide +kernel
theorem eJ3_checkIndex_8e157_6 : decode mJ3_checkIndex_8e157.2.1 6 = .ok (.if_icmp .lt 10, 3) := by decide +kernel
theorem eJ3_checkIndex_8e157_9 : decode mJ3_checkIndex_8e157.2.1 9 = .ok (.aload_n 2, 1) := by decide +kernel
theorem eJ3_checkIndex_8e157_10 : decode mJ3_checkIndex_8e157.2.1 10 = .ok (.iload_n 0, 1) := by decide +kernel
theorem eJ3_checkIndex_8e157_11 : decode mJ3_checkIndex_8e157.2.1 11 = .ok (.iload_n 1, 1) := by decide +kernel
theorem eJ3_checkIndex_8e157_12 : decode mJ3_checkIndex_8e157.2.1 12 = .ok (.invokestatic 95, 3) := by decide +kernel
theorem eJ3_checkIndex_8e157_15 : decode mJ3_checkIndex_8e157.2.1 15 = .ok (.athrow, 1) := by decide +kernel
theorem eJ3_checkIndex_8e157_16 : decode mJ3_checkIndex_8e157.2.1 16 = .ok (.iload_n 0, 1) := by decide +kernel
theorem eJ3_checkIndex_8e157_17 : decode mJ3_checkIndex_8e157.2.1 17 = .ok (.ireturn, 1) := by decide +kernel
theorem c_J3_checkIndex_n {j N : Nat} (hj : j < N) (hN : N < 2147483648) (hd : 0 ≤ d) : Ct l G mJ3_checkIndex_8e157 yJ3_checkIndex_8e157 d 0 0 [.int (nI j), .int (nI N), .null] h (fun r h' => r = some (.int (nI j)) ∧ h' = h) := by
  refine ct_of (lv := [some (.int (nI j)), some (.int (nI N)), some (.null)]) (by decide +kernel) rfl (fun z => by cases z) (fun _ => rfl) (fun _ => Nat.le_of_ble_eq_true rfl) ?_
  refine aw_iload_n (pc' := 1) eJ3_checkIndex_8e157_0 rfl rfl ?_
  refine aw_if_lt (pc' := 4) (tgt := 9) eJ3_checkIndex_8e157_1 rfl (by decide) (fun c_1 => ?_) (fun c_1 => ?_)
  · exact absurd c_1 (by rw [Int32.lt_iff_toInt_lt, nI_toInt (by omega), show (0 : Int32).toInt = 0 from by decide]; omega)
  · refine aw_iload_n (pc' := 5) eJ3_checkIndex_8e157_4 rfl rfl ?_
    refine aw_iload_n (pc' := 6) eJ3_checkIndex_8e157_5 rfl rfl ?_
    refine aw_icmp_lt (pc' := 9) (tgt := 16) eJ3_checkIndex_8e157_6 rfl (by decide) (fun c_6 => ?_) (fun c_6 => ?_)
    · refine aw_iload_n (pc' := 17) eJ3_checkIndex_8e157_16 rfl rfl ?_
      refine aw_ret (v := some (.int _)) eJ3_checkIndex_8e157_17 ⟨rfl, rfl⟩ (by omega) (by omega) rfl ?_
      exact ⟨rfl, rfl⟩
    · exact absurd ((nI_ltI (by omega) (by omega)).mpr hj) c_6
theorem c_J3_checkIndex_r {j N : Nat} (hj : j < N) (hN : N < 2147483648) (hd : 0 ≤ d) : Ct l G mJ3_checkIndex_8e157 yJ3_checkIndex_8e157 d 0 0 [.int (nI j), .int (nI N), .ref 15] h (fun r h' => r = some (.int (nI j)) ∧ h' = h) := by
  refine ct_of (lv := [some (.int (nI j)), some (.int (nI N)), some (.ref 15)]) (by decide +kernel) rfl (fun z => by cases z) (fun _ => rfl) (fun _ => Nat.le_of_ble_eq_true rfl) ?_
  refine aw_iload_n (pc' := 1) eJ3_checkIndex_8e157_0 rfl rfl ?_
  refine aw_if_lt (pc' := 4) (tgt := 9) eJ3_checkIndex_8e157_1 rfl (by decide) (fun c_1 => ?_) (fun c_1 => ?_)
  · exact absurd c_1 (by rw [Int32.lt_iff_toInt_lt, nI_toInt (by omega), show (0 : Int32).toInt = 0 from by decide]; omega)
  · refine aw_iload_n (pc' := 5) eJ3_checkIndex_8e157_4 rfl rfl ?_
    refine aw_iload_n (pc' := 6) eJ3_checkIndex_8e157_5 rfl rfl ?_
    refine aw_icmp_lt (pc' := 9) (tgt := 16) eJ3_checkIndex_8e157_6 rfl (by decide) (fun c_6 => ?_) (fun c_6 => ?_)
    · refine aw_iload_n (pc' := 17) eJ3_checkIndex_8e157_16 rfl rfl ?_
      refine aw_ret (v := some (.int _)) eJ3_checkIndex_8e157_17 ⟨rfl, rfl⟩ (by omega) (by omega) rfl ?_
      exact ⟨rfl, rfl⟩
    · exact absurd ((nI_ltI (by omega) (by omega)).mpr hj) c_6
abbrev mJ0_checkIndex_df160 : MT := (RJ0, cJ0_checkIndex_df160, 2, none, false)
theorem eJ0_checkIndex_df160_0 : decode mJ0_checkIndex_df160.2.1 0 = .ok (.iload_n 0, 1) := by decide +kernel
theorem eJ0_checkIndex_df160_1 : decode mJ0_checkIndex_df160.2.1 1 = .ok (.iload_n 1, 1) := by decide +kernel
theorem eJ0_checkIndex_df160_2 : decode mJ0_checkIndex_df160.2.1 2 = .ok (.getstatic 1053, 3) := by decide +kernel
theorem eJ0_checkIndex_df160_5 : decode mJ0_checkIndex_df160.2.1 5 = .ok (.invokestatic 1059, 3) := by decide +kernel
theorem eJ0_checkIndex_df160_8 : decode mJ0_checkIndex_df160.2.1 8 = .ok (.pop, 1) := by decide +kernel
theorem eJ0_checkIndex_df160_9 : decode mJ0_checkIndex_df160.2.1 9 = .ok (.return_, 1) := by decide +kernel
theorem c_J0_checkIndex_df160 {j N : Nat} (hj : j < N) (hN : N < 2147483648) (hd : 1 ≤ d) : Ct l G mJ0_checkIndex_df160 yJ0_checkIndex_df160 d 0 0 [.int (nI j), .int (nI N)] h (fun r h' => r = none ∧ h' = h) := by
  refine ct_of (lv := [some (.int (nI j)), some (.int (nI N))]) (by decide +kernel) rfl (fun z => by cases z) (fun _ => rfl) (fun _ => Nat.le_of_ble_eq_true rfl) ?_
  refine aw_iload_n (pc' := 1) eJ0_checkIndex_df160_0 rfl rfl ?_
  refine aw_iload_n (pc' := 2) eJ0_checkIndex_df160_1 rfl rfl ?_
  refine aw_getF (pc' := 5) eJ0_checkIndex_df160_2 rfl q448 ?_ ?_
  · refine aw_calls (pc' := 8) (nn := 3) (c_J3_checkIndex_n (d := d - 1) hj hN (by omega)) eJ0_checkIndex_df160_5 rfl ⟨q450, q452, q68⟩ q451 ⟨by decide +kernel, by decide +kernel, by decide +kernel⟩ rfl ⟨by omega, by decide⟩ ⟨by omega, by omega⟩ rfl (Nat.le_of_ble_eq_true rfl) (fun v1 h2 hq3 => ?_)
    obtain ⟨rfl, rfl⟩ := hq3
    dsimp only [Option.toList, List.cons_append, List.nil_append]
    refine aw_pop (pc' := 9) eJ0_checkIndex_df160_8 rfl rfl ?_
    refine aw_ret (v := none) eJ0_checkIndex_df160_9 rfl (by omega) (by omega) rfl ?_
    exact ⟨rfl, rfl⟩
  · refine aw_calls (pc' := 8) (nn := 3) (c_J3_checkIndex_r (d := d - 1) hj hN (by omega)) eJ0_checkIndex_df160_5 rfl ⟨q450, q452, q68⟩ q451 ⟨by decide +kernel, by decide +kernel, by decide +kernel⟩ rfl ⟨by omega, by decide⟩ ⟨by omega, by omega⟩ rfl (Nat.le_of_ble_eq_true rfl) (fun v4 h5 hq6 => ?_)
    obtain ⟨rfl, rfl⟩ := hq6
    dsimp only [Option.toList, List.cons_append, List.nil_append]
    refine aw_pop (pc' := 9) eJ0_checkIndex_df160_8 rfl rfl ?_
    refine aw_ret (v := none) eJ0_checkIndex_df160_9 rfl (by omega) (by omega) rfl ?_
    exact ⟨rfl, rfl⟩
abbrev mJ1_charAt_3b067 : MT := (RJ1, cJ1_charAt_3b067, 2, (some .char), false)
theorem eJ1_charAt_3b067_0 : decode mJ1_charAt_3b067.2.1 0 = .ok (.iload_n 1, 1) := by decide +kernel
theorem eJ1_charAt_3b067_1 : decode mJ1_charAt_3b067.2.1 1 = .ok (.aload_n 0, 1) := by decide +kernel
theorem eJ1_charAt_3b067_2 : decode mJ1_charAt_3b067.2.1 2 = .ok (.arraylength, 1) := by decide +kernel
theorem eJ1_charAt_3b067_3 : decode mJ1_charAt_3b067.2.1 3 = .ok (.invokestatic 9, 3) := by decide +kernel
theorem eJ1_charAt_3b067_6 : decode mJ1_charAt_3b067.2.1 6 = .ok (.aload_n 0, 1) := by decide +kernel
theorem eJ1_charAt_3b067_7 : decode mJ1_charAt_3b067.2.1 7 = .ok (.iload_n 1, 1) := by decide +kernel
theorem eJ1_charAt_3b067_8 : decode mJ1_charAt_3b067.2.1 8 = .ok (.baload, 1) := by decide +kernel
theorem eJ1_charAt_3b067_9 : decode mJ1_charAt_3b067.2.1 9 = .ok (.sipush 255, 3) := by decide +kernel
theorem eJ1_charAt_3b067_12 : decode mJ1_charAt_3b067.2.1 12 = .ok (.iand, 1) := by decide +kernel
theorem eJ1_charAt_3b067_13 : decode mJ1_charAt_3b067.2.1 13 = .ok (.i2c, 1) := by decide +kernel
theorem eJ1_charAt_3b067_14 : decode mJ1_charAt_3b067.2.1 14 = .ok (.ireturn, 1) := by decide +kernel
theorem c_J1_charAt_3b067 {i : Nat} (hi : i < 6) {j : Nat} (hj : j < sLen.getD i 0) (hd : 2 ≤ d) : Ct l G mJ1_charAt_3b067 yJ1_charAt_3b067 d 0 0 [.ref (9 + i), .int (nI j)] h (fun r h' => r = some (.int ((sByt.getD i []).getD j 0)) ∧ h' = h) := by
  refine ct_of (lv := [some (.ref (9 + i)), some (.int (nI j))]) (by decide +kernel) rfl (fun z => by cases z) (fun _ => rfl) (fun _ => Nat.le_of_ble_eq_true rfl) ?_
  have zl := str_l i (List.mem_range.mpr hi)
  have zb2 := str_b i (List.mem_range.mpr hi) j (List.mem_range.mpr hj)
  refine aw_iload_n (pc' := 1) eJ1_charAt_3b067_0 rfl rfl ?_
  refine aw_aload_n (pc' := 2) eJ1_charAt_3b067_1 rfl rfl trivial ?_
  refine aw_Slen (pc' := 3) (i := i) (by omega) eJ1_charAt_3b067_2 rfl ?_
  refine aw_calls (pc' := 6) (nn := 2) (c_J0_checkIndex_df160 (d := d - 1) hj zl.1 (by omega)) eJ1_charAt_3b067_3 rfl ⟨q445, q447, q57⟩ q446 ⟨by decide +kernel, by decide +kernel, by decide +kernel⟩ rfl ⟨by omega, by decide⟩ ⟨by omega, by omega⟩ rfl (Nat.le_of_ble_eq_true rfl) (fun v1 h2 hq3 => ?_)
  obtain ⟨rfl, rfl⟩ := hq3
  dsimp only [Option.toList, List.cons_append, List.nil_append]
  refine aw_aload_n (pc' := 7) eJ1_charAt_3b067_6 rfl rfl trivial ?_
  refine aw_iload_n (pc' := 8) eJ1_charAt_3b067_7 rfl rfl ?_
  refine aw_Sbl (pc' := 9) (i := i) (j := j) (by omega) eJ1_charAt_3b067_8 rfl hj rfl (str_l i (List.mem_range.mpr (by omega))).1 ?_
  refine aw_sipush (pc' := 12) (v := 255) eJ1_charAt_3b067_9 rfl (by decide) ?_
  refine aw_iand (pc' := 13) eJ1_charAt_3b067_12 rfl ?_
  refine aw_i2c (pc' := 14) eJ1_charAt_3b067_13 rfl ?_
  refine aw_ret (v := some (.int _)) eJ1_charAt_3b067_14 ⟨rfl, by rw [zb2.1]; exact zb2.2⟩ (by omega) (by omega) rfl ?_
  exact ⟨by rw [zb2.1], rfl⟩
abbrev mJ0_charAt_5068e : MT := (RJ0, cJ0_charAt_5068e, 2, (some .char), false)
theorem eJ0_charAt_5068e_0 : decode mJ0_charAt_5068e.2.1 0 = .ok (.aload_n 0, 1) := by decide +kernel
theorem eJ0_charAt_5068e_1 : decode mJ0_charAt_5068e.2.1 1 = .ok (.invokevirtual 492, 3) := by decide +kernel
theorem eJ0_charAt_5068e_4 : decode mJ0_charAt_5068e.2.1 4 = .ok (.ifCond .eq 12, 3) := by decide +kernel
theorem eJ0_charAt_5068e_7 : decode mJ0_charAt_5068e.2.1 7 = .ok (.aload_n 0, 1) := by decide +kernel
theorem eJ0_charAt_5068e_8 : decode mJ0_charAt_5068e.2.1 8 = .ok (.getfield 9, 3) := by decide +kernel
theorem eJ0_charAt_5068e_11 : decode mJ0_charAt_5068e.2.1 11 = .ok (.iload_n 1, 1) := by decide +kernel
theorem eJ0_charAt_5068e_12 : decode mJ0_charAt_5068e.2.1 12 = .ok (.invokestatic 495, 3) := by decide +kernel
theorem eJ0_charAt_5068e_15 : decode mJ0_charAt_5068e.2.1 15 = .ok (.ireturn, 1) := by decide +kernel
theorem eJ0_charAt_5068e_16 : decode mJ0_charAt_5068e.2.1 16 = .ok (.aload_n 0, 1) := by decide +kernel
theorem eJ0_charAt_5068e_17 : decode mJ0_charAt_5068e.2.1 17 = .ok (.getfield 9, 3) := by decide +kernel
theorem eJ0_charAt_5068e_20 : decode mJ0_charAt_5068e.2.1 20 = .ok (.iload_n 1, 1) := by decide +kernel
theorem eJ0_charAt_5068e_21 : decode mJ0_charAt_5068e.2.1 21 = .ok (.invokestatic 498, 3) := by decide +kernel
theorem eJ0_charAt_5068e_24 : decode mJ0_charAt_5068e.2.1 24 = .ok (.ireturn, 1) := by decide +kernel
theorem c_J0_charAt_5068e {i : Nat} (hi : i < 6) {j : Nat} (hj : j < sLen.getD i 0) (hd : 3 ≤ d) : Ct l G mJ0_charAt_5068e yJ0_charAt_5068e d 0 0 [.ref (3 + i), .int (nI j)] h (fun r h' => r = some (.int ((sByt.getD i []).getD j 0)) ∧ h' = h) := by
  refine ct_of (lv := [some (.ref (3 + i)), some (.int (nI j))]) (by decide +kernel) rfl (fun z => by cases z) (fun _ => rfl) (fun _ => Nat.le_of_ble_eq_true rfl) ?_
  have zb2 := str_b i (List.mem_range.mpr hi) j (List.mem_range.mpr hj)
  refine aw_aload_n (pc' := 1) eJ0_charAt_5068e_0 rfl rfl trivial ?_
  refine aw_callS (pc' := 4) (nn := 0) (c_J0_isLatin1_aae02 (d := d - 1) hi (by omega)) eJ0_charAt_5068e_1 rfl ⟨q438, q441, q57⟩ q439 q440 ⟨rfl, by decide +kernel, by decide +kernel, by decide +kernel⟩ rfl ⟨by omega, by omega⟩ ⟨by omega, by decide⟩ ⟨by omega, by omega⟩ rfl (Nat.le_of_ble_eq_true rfl) (fun v1 h2 hq3 => ?_)
  obtain ⟨rfl, rfl⟩ := hq3
  dsimp only [Option.toList, List.cons_append, List.nil_append]
  refine aw_if_eq (pc' := 7) (tgt := 16) eJ0_charAt_5068e_4 rfl (by decide) (fun c_4 => ?_) (fun c_4 => ?_)
  · exact absurd c_4 (by decide)
  · refine aw_aload_n (pc' := 8) eJ0_charAt_5068e_7 rfl rfl trivial ?_
    refine aw_Sval (pc' := 11) (i := i) (by omega) rfl eJ0_charAt_5068e_8 rfl q1166 ?_
    refine aw_iload_n (pc' := 12) eJ0_charAt_5068e_11 rfl rfl ?_
    refine aw_calls (pc' := 15) (nn := 2) (c_J1_charAt_3b067 (d := d - 1) hi hj (by omega)) eJ0_charAt_5068e_12 rfl ⟨q442, q444, q67⟩ q443 ⟨by decide +kernel, by decide +kernel, by decide +kernel⟩ rfl ⟨by omega, by decide⟩ ⟨by omega, by omega⟩ rfl (Nat.le_of_ble_eq_true rfl) (fun v4 h5 hq6 => ?_)
    obtain ⟨rfl, rfl⟩ := hq6
    dsimp only [Option.toList, List.cons_append, List.nil_append]
    refine aw_ret (v := some (.int _)) eJ0_charAt_5068e_15 ⟨rfl, zb2.2⟩ (by omega) (by omega) rfl ?_
    exact ⟨rfl, rfl⟩
abbrev mJ1_canEncode_9a6ad : MT := (RJ1, cJ1_canEncode_9a6ad, 1, (some .boolean), false)
theorem eJ1_canEncode_9a6ad_0 : decode mJ1_canEncode_9a6ad.2.1 0 = .ok (.iload_n 0, 1) := by decide +kernel
theorem eJ1_canEncode_9a6ad_1 : decode mJ1_canEncode_9a6ad.2.1 1 = .ok (.ifCond .lt 14, 3) := by decide +kernel
theorem eJ1_canEncode_9a6ad_4 : decode mJ1_canEncode_9a6ad.2.1 4 = .ok (.iload_n 0, 1) := by decide +kernel
theorem eJ1_canEncode_9a6ad_5 : decode mJ1_canEncode_9a6ad.2.1 5 = .ok (.sipush 255, 3) := by decide +kernel
theorem eJ1_canEncode_9a6ad_8 : decode mJ1_canEncode_9a6ad.2.1 8 = .ok (.if_icmp .gt 7, 3) := by decide +kernel
theorem eJ1_canEncode_9a6ad_11 : decode mJ1_canEncode_9a6ad.2.1 11 = .ok (.iconst 1, 1) := by decide +kernel
theorem eJ1_canEncode_9a6ad_12 : decode mJ1_canEncode_9a6ad.2.1 12 = .ok (.goto 4, 3) := by decide +kernel
theorem eJ1_canEncode_9a6ad_15 : decode mJ1_canEncode_9a6ad.2.1 15 = .ok (.iconst 0, 1) := by decide +kernel
theorem eJ1_canEncode_9a6ad_16 : decode mJ1_canEncode_9a6ad.2.1 16 = .ok (.ireturn, 1) := by decide +kernel
theorem c_J1_canEncode_9a6ad {c : Nat} (hc : c < 128) (hd : 0 ≤ d) : Ct l G mJ1_canEncode_9a6ad yJ1_canEncode_9a6ad d 0 0 [.int (nI c)] h (fun r h' => r = some (.int 1) ∧ h' = h) := by
  refine ct_of (lv := [some (.int (nI c))]) (by decide +kernel) rfl (fun z => by cases z) (fun _ => rfl) (fun _ => Nat.le_of_ble_eq_true rfl) ?_
  refine aw_iload_n (pc' := 1) eJ1_canEncode_9a6ad_0 rfl rfl ?_
  refine aw_if_lt (pc' := 4) (tgt := 15) eJ1_canEncode_9a6ad_1 rfl (by decide) (fun c_1 => ?_) (fun c_1 => ?_)
  · exact absurd c_1 (by rw [Int32.lt_iff_toInt_lt, nI_toInt (by omega), show (0 : Int32).toInt = 0 from by decide]; omega)
  · refine aw_iload_n (pc' := 5) eJ1_canEncode_9a6ad_4 rfl rfl ?_
    refine aw_sipush (pc' := 8) (v := 255) eJ1_canEncode_9a6ad_5 rfl (by decide) ?_
    refine aw_icmp_gt (pc' := 11) (tgt := 15) eJ1_canEncode_9a6ad_8 rfl (by decide) (fun c_8 => ?_) (fun c_8 => ?_)
    · exact absurd ((nI_ltI (a := 255) (by omega) (by omega)).mp c_8) (by omega)
    · refine aw_iconst (pc' := 12) (v := 1) eJ1_canEncode_9a6ad_11 rfl (by decide) ?_
      refine aw_goto eJ1_canEncode_9a6ad_12 (by decide) (tgt := 16) ?_
      refine aw_ret (v := some (.int _)) eJ1_canEncode_9a6ad_16 ⟨rfl, rfl⟩ (by omega) (by omega) rfl ?_
      exact ⟨rfl, rfl⟩
abbrev mJ1_indexOfChar_4cfef : MT := (RJ1, cJ1_indexOfChar_4cfef, 6, (some .int), false)
theorem eJ1_indexOfChar_4cfef_0 : decode mJ1_indexOfChar_4cfef.2.1 0 = .ok (.iload_n 1, 1) := by decide +kernel
theorem eJ1_indexOfChar_4cfef_1 : decode mJ1_indexOfChar_4cfef.2.1 1 = .ok (.i2b, 1) := by decide +kernel
theorem eJ1_indexOfChar_4cfef_2 : decode mJ1_indexOfChar_4cfef.2.1 2 = .ok (.istore 4, 2) := by decide +kernel
theorem eJ1_indexOfChar_4cfef_4 : decode mJ1_indexOfChar_4cfef.2.1 4 = .ok (.iload_n 2, 1) := by decide +kernel
theorem eJ1_indexOfChar_4cfef_5 : decode mJ1_indexOfChar_4cfef.2.1 5 = .ok (.istore 5, 2) := by decide +kernel
theorem eJ1_indexOfChar_4cfef_7 : decode mJ1_indexOfChar_4cfef.2.1 7 = .ok (.iload 5, 2) := by decide +kernel
theorem eJ1_indexOfChar_4cfef_9 : decode mJ1_indexOfChar_4cfef.2.1 9 = .ok (.iload_n 3, 1) := by decide +kernel
theorem eJ1_indexOfChar_4cfef_10 : decode mJ1_indexOfChar_4cfef.2.1 10 = .ok (.if_icmp .ge 21, 3) := by decide +kernel
theorem eJ1_indexOfChar_4cfef_13 : decode mJ1_indexOfChar_4cfef.2.1 13 = .ok (.aload_n 0, 1) := by decide +kernel
theorem eJ1_indexOfChar_4cfef_14 : decode mJ1_indexOfChar_4cfef.2.1 14 = .ok (.iload 5, 2) := by decide +kernel
theorem eJ1_indexOfChar_4cfef_16 : decode mJ1_indexOfChar_4cfef.2.1 16 = .ok (.baload, 1) := by decide +kernel
theorem eJ1_indexOfChar_4cfef_17 : decode mJ1_indexOfChar_4cfef.2.1 17 = .ok (.iload 4, 2) := by decide +kernel
theorem eJ1_indexOfChar_4cfef_19 : decode mJ1_indexOfChar_4cfef.2.1 19 = .ok (.if_icmp .ne 6, 3) := by decide +kernel
theorem eJ1_indexOfChar_4cfef_22 : decode mJ1_indexOfChar_4cfef.2.1 22 = .ok (.iload 5, 2) := by decide +kernel
theorem eJ1_indexOfChar_4cfef_24 : decode mJ1_indexOfChar_4cfef.2.1 24 = .ok (.ireturn, 1) := by decide +kernel
theorem eJ1_indexOfChar_4cfef_25 : decode mJ1_indexOfChar_4cfef.2.1 25 = .ok (.iinc 5 1, 3) := by decide +kernel
theorem eJ1_indexOfChar_4cfef_28 : decode mJ1_indexOfChar_4cfef.2.1 28 = .ok (.goto (-21), 3) := by decide +kernel
theorem eJ1_indexOfChar_4cfef_31 : decode mJ1_indexOfChar_4cfef.2.1 31 = .ok (.iconst (-1), 1) := by decide +kernel
theorem eJ1_indexOfChar_4cfef_32 : decode mJ1_indexOfChar_4cfef.2.1 32 = .ok (.ireturn, 1) := by decide +kernel
theorem lp_J1_indexOfChar {o1 o2 : Option Value} {c : Int32} : ∀ (k : Nat) (y : Int32), Q (some (.int (ixF c k))) h → k ≤ 6 → y = nI (6 - k) → AW l G mJ1_indexOfChar_4cfef d 0 0 Q 0 0 h [some (.ref 9), o1, o2, some (.int 6), some (.int c), some (.int y)] [] 7 := by
  intro k
  induction k with
  | zero =>
    intro y hQ hk hy
    subst hy
    refine aw_iload (pc' := 9) eJ1_indexOfChar_4cfef_7 rfl rfl ?_
    refine aw_iload_n (pc' := 10) eJ1_indexOfChar_4cfef_9 rfl rfl ?_
    refine aw_icmp_ge (pc' := 13) (tgt := 31) eJ1_indexOfChar_4cfef_10 rfl (by decide) (fun c_10 => ?_) (fun c_10 => ?_)
    · refine aw_iconst (pc' := 32) (v := -1) eJ1_indexOfChar_4cfef_31 rfl (by decide) ?_
      refine aw_ret (v := some (.int _)) eJ1_indexOfChar_4cfef_32 ⟨rfl, rfl⟩ (by omega) (by omega) rfl ?_
      exact hQ
    · exact absurd (by decide) c_10
  | succ k ih =>
    intro y hQ hk hy
    subst hy
    refine aw_iload (pc' := 9) eJ1_indexOfChar_4cfef_7 rfl rfl ?_
    refine aw_iload_n (pc' := 10) eJ1_indexOfChar_4cfef_9 rfl rfl ?_
    refine aw_icmp_ge (pc' := 13) (tgt := 31) eJ1_indexOfChar_4cfef_10 rfl (by decide) (fun c_10 => ?_) (fun c_10 => ?_)
    · exact absurd ((nI_leI (a := 6) (by omega) (by omega)).mp c_10) (by omega)
    · refine aw_aload_n (pc' := 14) eJ1_indexOfChar_4cfef_13 rfl rfl trivial ?_
      refine aw_iload (pc' := 16) eJ1_indexOfChar_4cfef_14 rfl rfl ?_
      refine aw_Sbl (pc' := 17) (i := 0) (j := (6 - (k + 1))) (by omega) eJ1_indexOfChar_4cfef_16 rfl (show 6 - (k + 1) < 6 by omega) rfl (str_l 0 (List.mem_range.mpr (by omega))).1 ?_
      refine aw_iload (pc' := 19) eJ1_indexOfChar_4cfef_17 rfl rfl ?_
      refine aw_icmp_ne (pc' := 22) (tgt := 25) eJ1_indexOfChar_4cfef_19 rfl (by decide) (fun c_19 => ?_) (fun c_19 => ?_)
      · refine aw_iinc (pc' := 28) eJ1_indexOfChar_4cfef_25 rfl rfl rfl (by decide) ?_
        dsimp only [zst, zst2, zcut]
        refine aw_goto eJ1_indexOfChar_4cfef_28 (by decide) (tgt := 7) ?_
        rw [ixF, if_neg c_19] at hQ
        exact ih _ hQ (by omega) (by rw [show 6 - k = 6 - (k + 1) + 1 by omega]; exact nI_inc _)
      · refine aw_iload (pc' := 24) eJ1_indexOfChar_4cfef_22 rfl rfl ?_
        refine aw_ret (v := some (.int _)) eJ1_indexOfChar_4cfef_24 ⟨rfl, rfl⟩ (by omega) (by omega) rfl ?_
        rw [ixF, if_pos c_19] at hQ
        exact hQ
theorem c_J1_indexOfChar_4cfef {c : Nat} (hc : c < 128) (hd : 0 ≤ d) : Ct l G mJ1_indexOfChar_4cfef yJ1_indexOfChar_4cfef d 0 0 [.ref 9, .int (nI c), .int 0, .int 6] h (fun r h' => r = some (.int (ixF (nI c) 6)) ∧ h' = h) := by
  refine ct_of (lv := [some (.ref 9), some (.int (nI c)), some (.int 0), some (.int 6), none, none]) (by decide +kernel) rfl (fun z => by cases z) (fun _ => rfl) (fun _ => Nat.le_of_ble_eq_true rfl) ?_
  refine aw_iload_n (pc' := 1) eJ1_indexOfChar_4cfef_0 rfl rfl ?_
  refine aw_i2b (pc' := 2) eJ1_indexOfChar_4cfef_1 rfl ?_
  rw [asc8 hc]
  refine aw_istore (pc' := 4) eJ1_indexOfChar_4cfef_2 rfl (by decide) ?_
  dsimp only [zst, zst2, zcut]
  refine aw_iload_n (pc' := 5) eJ1_indexOfChar_4cfef_4 rfl rfl ?_
  refine aw_istore (pc' := 7) eJ1_indexOfChar_4cfef_5 rfl (by decide) ?_
  dsimp only [zst, zst2, zcut]
  exact lp_J1_indexOfChar 6 _ ⟨rfl, rfl⟩ (by omega) rfl
abbrev mJ1_indexOf_4cfef : MT := (RJ1, cJ1_indexOf_4cfef, 4, (some .int), false)
theorem eJ1_indexOf_4cfef_0 : decode mJ1_indexOf_4cfef.2.1 0 = .ok (.iload_n 1, 1) := by decide +kernel
theorem eJ1_indexOf_4cfef_1 : decode mJ1_indexOf_4cfef.2.1 1 = .ok (.invokestatic 88, 3) := by decide +kernel
theorem eJ1_indexOf_4cfef_4 : decode mJ1_indexOf_4cfef.2.1 4 = .ok (.ifCond .ne 5, 3) := by decide +kernel
theorem eJ1_indexOf_4cfef_7 : decode mJ1_indexOf_4cfef.2.1 7 = .ok (.iconst (-1), 1) := by decide +kernel
theorem eJ1_indexOf_4cfef_8 : decode mJ1_indexOf_4cfef.2.1 8 = .ok (.ireturn, 1) := by decide +kernel
theorem eJ1_indexOf_4cfef_9 : decode mJ1_indexOf_4cfef.2.1 9 = .ok (.iload_n 2, 1) := by decide +kernel
theorem eJ1_indexOf_4cfef_10 : decode mJ1_indexOf_4cfef.2.1 10 = .ok (.iconst 0, 1) := by decide +kernel
theorem eJ1_indexOf_4cfef_11 : decode mJ1_indexOf_4cfef.2.1 11 = .ok (.invokestatic 92, 3) := by decide +kernel
theorem eJ1_indexOf_4cfef_14 : decode mJ1_indexOf_4cfef.2.1 14 = .ok (.istore_n 2, 1) := by decide +kernel
theorem eJ1_indexOf_4cfef_15 : decode mJ1_indexOf_4cfef.2.1 15 = .ok (.iload_n 3, 1) := by decide +kernel
theorem eJ1_indexOf_4cfef_16 : decode mJ1_indexOf_4cfef.2.1 16 = .ok (.aload_n 0, 1) := by decide +kernel
theorem eJ1_indexOf_4cfef_17 : decode mJ1_indexOf_4cfef.2.1 17 = .ok (.arraylength, 1) := by decide +kernel
theorem eJ1_indexOf_4cfef_18 : decode mJ1_indexOf_4cfef.2.1 18 = .ok (.invokestatic 38, 3) := by decide +kernel
theorem eJ1_indexOf_4cfef_21 : decode mJ1_indexOf_4cfef.2.1 21 = .ok (.istore_n 3, 1) := by decide +kernel
theorem eJ1_indexOf_4cfef_22 : decode mJ1_indexOf_4cfef.2.1 22 = .ok (.iload_n 2, 1) := by decide +kernel
theorem eJ1_indexOf_4cfef_23 : decode mJ1_indexOf_4cfef.2.1 23 = .ok (.iload_n 3, 1) := by decide +kernel
theorem eJ1_indexOf_4cfef_24 : decode mJ1_indexOf_4cfef.2.1 24 = .ok (.if_icmp .lt 5, 3) := by decide +kernel
theorem eJ1_indexOf_4cfef_27 : decode mJ1_indexOf_4cfef.2.1 27 = .ok (.iconst (-1), 1) := by decide +kernel
theorem eJ1_indexOf_4cfef_28 : decode mJ1_indexOf_4cfef.2.1 28 = .ok (.ireturn, 1) := by decide +kernel
theorem eJ1_indexOf_4cfef_29 : decode mJ1_indexOf_4cfef.2.1 29 = .ok (.aload_n 0, 1) := by decide +kernel
theorem eJ1_indexOf_4cfef_30 : decode mJ1_indexOf_4cfef.2.1 30 = .ok (.iload_n 1, 1) := by decide +kernel
theorem eJ1_indexOf_4cfef_31 : decode mJ1_indexOf_4cfef.2.1 31 = .ok (.iload_n 2, 1) := by decide +kernel
theorem eJ1_indexOf_4cfef_32 : decode mJ1_indexOf_4cfef.2.1 32 = .ok (.iload_n 3, 1) := by decide +kernel
theorem eJ1_indexOf_4cfef_33 : decode mJ1_indexOf_4cfef.2.1 33 = .ok (.invokestatic 95, 3) := by decide +kernel
theorem eJ1_indexOf_4cfef_36 : decode mJ1_indexOf_4cfef.2.1 36 = .ok (.ireturn, 1) := by decide +kernel
theorem c_J1_indexOf_4cfef {c : Nat} (hc : c < 128) (hd : 1 ≤ d) : Ct l G mJ1_indexOf_4cfef yJ1_indexOf_4cfef d 0 0 [.ref 9, .int (nI c), .int 0, .int 6] h (fun r h' => r = some (.int (ixF (nI c) 6)) ∧ h' = h) := by
  refine ct_of (lv := [some (.ref 9), some (.int (nI c)), some (.int 0), some (.int 6)]) (by decide +kernel) rfl (fun z => by cases z) (fun _ => rfl) (fun _ => Nat.le_of_ble_eq_true rfl) ?_
  refine aw_iload_n (pc' := 1) eJ1_indexOf_4cfef_0 rfl rfl ?_
  refine aw_calls (pc' := 4) (nn := 1) (c_J1_canEncode_9a6ad (d := d - 1) hc (by omega)) eJ1_indexOf_4cfef_1 rfl ⟨q505, q507, q67⟩ q506 ⟨by decide +kernel, by decide +kernel, by decide +kernel⟩ rfl ⟨by omega, by decide⟩ ⟨by omega, by omega⟩ rfl (Nat.le_of_ble_eq_true rfl) (fun v1 h2 hq3 => ?_)
  obtain ⟨rfl, rfl⟩ := hq3
  dsimp only [Option.toList, List.cons_append, List.nil_append]
  refine aw_if_ne (pc' := 7) (tgt := 9) eJ1_indexOf_4cfef_4 rfl (by decide) (fun c_4 => ?_) (fun c_4 => ?_)
  · refine aw_iload_n (pc' := 10) eJ1_indexOf_4cfef_9 rfl rfl ?_
    refine aw_iconst (pc' := 11) (v := 0) eJ1_indexOf_4cfef_10 rfl (by decide) ?_
    refine aw_mmax (pc' := 14) eJ1_indexOf_4cfef_11 rfl q508 q509 q63 q510 (by omega) ⟨by omega, by omega⟩ (Nat.le_of_ble_eq_true rfl) ?_
    rw [show (if (0 : Int32) < 0 then (0 : Int32) else 0) = 0 from by decide]
    refine aw_istore_n (pc' := 15) eJ1_indexOf_4cfef_14 rfl (by decide) ?_
    dsimp only [zst, zst2, zcut]
    refine aw_iload_n (pc' := 16) eJ1_indexOf_4cfef_15 rfl rfl ?_
    refine aw_aload_n (pc' := 17) eJ1_indexOf_4cfef_16 rfl rfl trivial ?_
    refine aw_Slen (pc' := 18) (i := 0) (by omega) eJ1_indexOf_4cfef_17 rfl ?_
    refine aw_mmin (pc' := 21) eJ1_indexOf_4cfef_18 rfl q511 q326 q63 q327 (by omega) ⟨by omega, by omega⟩ (Nat.le_of_ble_eq_true rfl) ?_
    rw [show (if nI (sLen.getD 0 0) < 6 then nI (sLen.getD 0 0) else 6) = 6 from by decide]
    refine aw_istore_n (pc' := 22) eJ1_indexOf_4cfef_21 rfl (by decide) ?_
    dsimp only [zst, zst2, zcut]
    refine aw_iload_n (pc' := 23) eJ1_indexOf_4cfef_22 rfl rfl ?_
    refine aw_iload_n (pc' := 24) eJ1_indexOf_4cfef_23 rfl rfl ?_
    refine aw_icmp_lt (pc' := 27) (tgt := 29) eJ1_indexOf_4cfef_24 rfl (by decide) (fun c_24 => ?_) (fun c_24 => ?_)
    · refine aw_aload_n (pc' := 30) eJ1_indexOf_4cfef_29 rfl rfl trivial ?_
      refine aw_iload_n (pc' := 31) eJ1_indexOf_4cfef_30 rfl rfl ?_
      refine aw_iload_n (pc' := 32) eJ1_indexOf_4cfef_31 rfl rfl ?_
      refine aw_iload_n (pc' := 33) eJ1_indexOf_4cfef_32 rfl rfl ?_
      refine aw_calls (pc' := 36) (nn := 4) (c_J1_indexOfChar_4cfef (d := d - 1) hc (by omega)) eJ1_indexOf_4cfef_33 rfl ⟨q512, q514, q67⟩ q513 ⟨by decide +kernel, by decide +kernel, by decide +kernel⟩ rfl ⟨by omega, by decide⟩ ⟨by omega, by omega⟩ rfl (Nat.le_of_ble_eq_true rfl) (fun v4 h5 hq6 => ?_)
      obtain ⟨rfl, rfl⟩ := hq6
      dsimp only [Option.toList, List.cons_append, List.nil_append]
      refine aw_ret (v := some (.int _)) eJ1_indexOf_4cfef_36 ⟨rfl, rfl⟩ (by omega) (by omega) rfl ?_
      exact ⟨rfl, rfl⟩
    · exact absurd (show (0 : Int32) < 6 from by decide) c_24
  · exact absurd c_4 (by decide)
abbrev mJ0_indexOf_7cf53 : MT := (RJ0, cJ0_indexOf_7cf53, 3, (some .int), false)
theorem eJ0_indexOf_7cf53_0 : decode mJ0_indexOf_7cf53.2.1 0 = .ok (.aload_n 0, 1) := by decide +kernel
theorem eJ0_indexOf_7cf53_1 : decode mJ0_indexOf_7cf53.2.1 1 = .ok (.invokevirtual 492, 3) := by decide +kernel
theorem eJ0_indexOf_7cf53_4 : decode mJ0_indexOf_7cf53.2.1 4 = .ok (.ifCond .eq 19, 3) := by decide +kernel
theorem eJ0_indexOf_7cf53_7 : decode mJ0_indexOf_7cf53.2.1 7 = .ok (.aload_n 0, 1) := by decide +kernel
theorem eJ0_indexOf_7cf53_8 : decode mJ0_indexOf_7cf53.2.1 8 = .ok (.getfield 9, 3) := by decide +kernel
theorem eJ0_indexOf_7cf53_11 : decode mJ0_indexOf_7cf53.2.1 11 = .ok (.iload_n 1, 1) := by decide +kernel
theorem eJ0_indexOf_7cf53_12 : decode mJ0_indexOf_7cf53.2.1 12 = .ok (.iload_n 2, 1) := by decide +kernel
theorem eJ0_indexOf_7cf53_13 : decode mJ0_indexOf_7cf53.2.1 13 = .ok (.aload_n 0, 1) := by decide +kernel
theorem eJ0_indexOf_7cf53_14 : decode mJ0_indexOf_7cf53.2.1 14 = .ok (.invokevirtual 505, 3) := by decide +kernel
theorem eJ0_indexOf_7cf53_17 : decode mJ0_indexOf_7cf53.2.1 17 = .ok (.invokestatic 637, 3) := by decide +kernel
theorem eJ0_indexOf_7cf53_20 : decode mJ0_indexOf_7cf53.2.1 20 = .ok (.goto 16, 3) := by decide +kernel
theorem eJ0_indexOf_7cf53_23 : decode mJ0_indexOf_7cf53.2.1 23 = .ok (.aload_n 0, 1) := by decide +kernel
theorem eJ0_indexOf_7cf53_24 : decode mJ0_indexOf_7cf53.2.1 24 = .ok (.getfield 9, 3) := by decide +kernel
theorem eJ0_indexOf_7cf53_27 : decode mJ0_indexOf_7cf53.2.1 27 = .ok (.iload_n 1, 1) := by decide +kernel
theorem eJ0_indexOf_7cf53_28 : decode mJ0_indexOf_7cf53.2.1 28 = .ok (.iload_n 2, 1) := by decide +kernel
theorem eJ0_indexOf_7cf53_29 : decode mJ0_indexOf_7cf53.2.1 29 = .ok (.aload_n 0, 1) := by decide +kernel
theorem eJ0_indexOf_7cf53_30 : decode mJ0_indexOf_7cf53.2.1 30 = .ok (.invokevirtual 505, 3) := by decide +kernel
theorem eJ0_indexOf_7cf53_33 : decode mJ0_indexOf_7cf53.2.1 33 = .ok (.invokestatic 640, 3) := by decide +kernel
theorem eJ0_indexOf_7cf53_36 : decode mJ0_indexOf_7cf53.2.1 36 = .ok (.ireturn, 1) := by decide +kernel
theorem c_J0_indexOf_7cf53 {c : Nat} (hc : c < 128) (hd : 2 ≤ d) : Ct l G mJ0_indexOf_7cf53 yJ0_indexOf_7cf53 d 0 0 [.ref 3, .int (nI c), .int 0] h (fun r h' => r = some (.int (ixF (nI c) 6)) ∧ h' = h) := by
  refine ct_of (lv := [some (.ref 3), some (.int (nI c)), some (.int 0)]) (by decide +kernel) rfl (fun z => by cases z) (fun _ => rfl) (fun _ => Nat.le_of_ble_eq_true rfl) ?_
  refine aw_aload_n (pc' := 1) eJ0_indexOf_7cf53_0 rfl rfl trivial ?_
  refine aw_callS (pc' := 4) (nn := 0) (c_J0_isLatin1_aae02 (d := d - 1) (i := 0) (by omega) (by omega)) eJ0_indexOf_7cf53_1 rfl ⟨q438, q441, q57⟩ q439 q440 ⟨rfl, by decide +kernel, by decide +kernel, by decide +kernel⟩ rfl ⟨by omega, by omega⟩ ⟨by omega, by decide⟩ ⟨by omega, by omega⟩ rfl (Nat.le_of_ble_eq_true rfl) (fun v1 h2 hq3 => ?_)
  obtain ⟨rfl, rfl⟩ := hq3
  dsimp only [Option.toList, List.cons_append, List.nil_append]
  refine aw_if_eq (pc' := 7) (tgt := 23) eJ0_indexOf_7cf53_4 rfl (by decide) (fun c_4 => ?_) (fun c_4 => ?_)
  · exact absurd c_4 (by decide)
  · refine aw_aload_n (pc' := 8) eJ0_indexOf_7cf53_7 rfl rfl trivial ?_
    refine aw_Sval (pc' := 11) (i := 0) (by omega) rfl eJ0_indexOf_7cf53_8 rfl q1166 ?_
    refine aw_iload_n (pc' := 12) eJ0_indexOf_7cf53_11 rfl rfl ?_
    refine aw_iload_n (pc' := 13) eJ0_indexOf_7cf53_12 rfl rfl ?_
    refine aw_aload_n (pc' := 14) eJ0_indexOf_7cf53_13 rfl rfl trivial ?_
    refine aw_callS (pc' := 17) (nn := 0) (c_J0_length_8abf5 (d := d - 1) (i := 0) (by omega) (by omega)) eJ0_indexOf_7cf53_14 rfl ⟨q501, q90, q57⟩ q88 q89 ⟨rfl, by decide +kernel, by decide +kernel, by decide +kernel⟩ rfl ⟨by omega, by omega⟩ ⟨by omega, by decide⟩ ⟨by omega, by omega⟩ rfl (Nat.le_of_ble_eq_true rfl) (fun v4 h5 hq6 => ?_)
    obtain ⟨rfl, rfl⟩ := hq6
    dsimp only [Option.toList, List.cons_append, List.nil_append]
    refine aw_calls (pc' := 20) (nn := 4) (c_J1_indexOf_4cfef (d := d - 1) hc (by omega)) eJ0_indexOf_7cf53_17 rfl ⟨q502, q504, q67⟩ q503 ⟨by decide +kernel, by decide +kernel, by decide +kernel⟩ rfl ⟨by omega, by decide⟩ ⟨by omega, by omega⟩ rfl (Nat.le_of_ble_eq_true rfl) (fun v7 h8 hq9 => ?_)
    obtain ⟨rfl, rfl⟩ := hq9
    dsimp only [Option.toList, List.cons_append, List.nil_append]
    refine aw_goto eJ0_indexOf_7cf53_20 (by decide) (tgt := 36) ?_
    refine aw_ret (v := some (.int _)) eJ0_indexOf_7cf53_36 ⟨rfl, rfl⟩ (by omega) (by omega) rfl ?_
    exact ⟨rfl, rfl⟩
abbrev mJ0_indexOf_0f7a4 : MT := (RJ0, cJ0_indexOf_0f7a4, 2, (some .int), false)
theorem eJ0_indexOf_0f7a4_0 : decode mJ0_indexOf_0f7a4.2.1 0 = .ok (.aload_n 0, 1) := by decide +kernel
theorem eJ0_indexOf_0f7a4_1 : decode mJ0_indexOf_0f7a4.2.1 1 = .ok (.iload_n 1, 1) := by decide +kernel
theorem eJ0_indexOf_0f7a4_2 : decode mJ0_indexOf_0f7a4.2.1 2 = .ok (.iconst 0, 1) := by decide +kernel
theorem eJ0_indexOf_0f7a4_3 : decode mJ0_indexOf_0f7a4.2.1 3 = .ok (.invokevirtual 633, 3) := by decide +kernel
theorem eJ0_indexOf_0f7a4_6 : decode mJ0_indexOf_0f7a4.2.1 6 = .ok (.ireturn, 1) := by decide +kernel
theorem c_J0_indexOf_0f7a4 {c : Nat} (hc : c < 128) (hd : 3 ≤ d) : Ct l G mJ0_indexOf_0f7a4 yJ0_indexOf_0f7a4 d 0 0 [.ref 3, .int (nI c)] h (fun r h' => r = some (.int (ixF (nI c) 6)) ∧ h' = h) := by
  refine ct_of (lv := [some (.ref 3), some (.int (nI c))]) (by decide +kernel) rfl (fun z => by cases z) (fun _ => rfl) (fun _ => Nat.le_of_ble_eq_true rfl) ?_
  refine aw_aload_n (pc' := 1) eJ0_indexOf_0f7a4_0 rfl rfl trivial ?_
  refine aw_iload_n (pc' := 2) eJ0_indexOf_0f7a4_1 rfl rfl ?_
  refine aw_iconst (pc' := 3) (v := 0) eJ0_indexOf_0f7a4_2 rfl (by decide) ?_
  refine aw_callS (pc' := 6) (nn := 2) (c_J0_indexOf_7cf53 (d := d - 1) hc (by omega)) eJ0_indexOf_0f7a4_3 rfl ⟨q497, q500, q57⟩ q498 q499 ⟨rfl, by decide +kernel, by decide +kernel, by decide +kernel⟩ rfl ⟨by omega, by omega⟩ ⟨by omega, by decide⟩ ⟨by omega, by omega⟩ rfl (Nat.le_of_ble_eq_true rfl) (fun v1 h2 hq3 => ?_)
  obtain ⟨rfl, rfl⟩ := hq3
  dsimp only [Option.toList, List.cons_append, List.nil_append]
  refine aw_ret (v := some (.int _)) eJ0_indexOf_0f7a4_6 ⟨rfl, rfl⟩ (by omega) (by omega) rfl ?_
  exact ⟨rfl, rfl⟩
end C6
