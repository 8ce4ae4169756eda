/-! the class: the reader -/
section C8
variable {l : Launch} {G : GT} {M : MT} {e n d mc ms k m pc pc' : Nat} {h : Hp} {Q : Option Value → Hp → Prop} {lv : LV} {st : List Value} {R : Nat → Int32} {a : Nat} {b : Bool} {ss : List Int32} {r : Int32}
/-- the reader at e: a text R of n bytes, at a, fits or not, the steps ss, the room r -/
def RdAt (h : Hp) (e n : Nat) (R : Nat → Int32) (a : Nat) (b : Bool) (ss : List Int32) (r : Int32) : Prop := OA h e (.inr (0, [.ref (e + 1), .ref (e + 2), .int (nI n), .int (nI a), .int (zb b), .int (nI ss.length), .int r])) ∧ (∃ T, OA h (e + 1) (.inl (1, (100, .inl T))) ∧ ∀ i, i < n → T i = R i) ∧ ∃ f, OA h (e + 2) (.inl (0, (100, .inl f))) ∧ ∀ i, i < ss.length → f i = ss.getD i 0
theorem RdAt.ob (hR : RdAt h e n R a b ss r) : zOb (h.2 e) 0 7 := by
  rw [hR.1.1]
  exact ⟨rfl, rfl⟩
theorem RdAt.fr {h' : Hp} {w N : Nat} (hR : RdAt h e n R a b ss r) (hs : Same w N h h') (hd : e + 3 ≤ w ∨ w + N ≤ e) : RdAt h' e n R a b ss r := by
  obtain ⟨h1, ⟨T, h2, h3⟩, f, h4, h5⟩ := hR
  exact ⟨h1.fr hs (by omega), ⟨T, h2.fr hs (by omega), h3⟩, f, h4.fr hs (by omega), h5⟩
theorem RdAt.ob2 {h' : Hp} {n' a' : Nat} {b' : Bool} {ss' : List Int32} {r' : Int32} (hR : RdAt h e n R a b ss r) (hn : n' ≤ n) (hss : ss' = ss ∨ ss' = []) (hO : OA h' e (.inr (0, [.ref (e + 1), .ref (e + 2), .int (nI n'), .int (nI a'), .int (zb b'), .int (nI ss'.length), .int r']))) (hs : Same e 1 h h') : RdAt h' e n' R a' b' ss' r' := by
  obtain ⟨h1, ⟨T, h2, h3⟩, f, h4, h5⟩ := hR
  refine ⟨hO, ⟨T, h2.fr hs (by omega), fun i hi => h3 i (by omega)⟩, f, h4.fr hs (by omega), fun i hi => ?_⟩
  rcases hss with rfl | rfl
  · exact h5 i hi
  · exact absurd hi (Nat.not_lt_zero _)
theorem aw_Rat {idx : Nat} {x : Int32} (a' : Nat) (hR : RdAt h e n R a b ss r) (hd : decode M.2.1 pc = .ok (.putfield idx, 3)) (hn : pc + 3 = pc') (hw : Cond.fieldLink M.1 idx (TX0 3).1 (TX0 3).2.1 (TX0 3).2.2.1 ∈ TB) (hx : x = nI a')
    (kk : ∀ h', RdAt h' e n R a' b ss r → Same e 3 h h' → AW l G M d mc ms Q k m h' lv st pc') : AW l G M d mc ms Q k m h lv (.int x :: .ref e :: st) pc :=
  aw_Oput (ci := 0) (kf := 3) (N := 7) (ty0 := tyX0) _ hR.1 hd hn rfl rfl inX0 tyX0_ok nmX0 (by decide) hw rfl trivial rfl fun h' hO hs => kk h' (hR.ob2 (Nat.le_refl _) (Or.inl rfl) (by subst hx; exact hO) hs) (hs.w (by omega) (by omega))
theorem aw_Rfit {idx : Nat} {x : Int32} (b' : Bool) (hR : RdAt h e n R a b ss r) (hd : decode M.2.1 pc = .ok (.putfield idx, 3)) (hn : pc + 3 = pc') (hw : Cond.fieldLink M.1 idx (TX0 4).1 (TX0 4).2.1 (TX0 4).2.2.1 ∈ TB) (hx : x = zb b')
    (kk : ∀ h', RdAt h' e n R a b' ss r → Same e 3 h h' → AW l G M d mc ms Q k m h' lv st pc') : AW l G M d mc ms Q k m h lv (.int x :: .ref e :: st) pc :=
  aw_Oput (ci := 0) (kf := 4) (N := 7) (ty0 := tyX0) _ hR.1 hd hn rfl rfl inX0 tyX0_ok nmX0 (by decide) hw rfl (by subst hx; cases b'; exact Or.inl rfl; exact Or.inr rfl) rfl fun h' hO hs => kk h' (hR.ob2 (Nat.le_refl _) (Or.inl rfl) (by subst hx; exact hO) hs) (hs.w (by omega) (by omega))
theorem aw_Rroom {idx : Nat} {x : Int32} (hR : RdAt h e n R a b ss r) (hd : decode M.2.1 pc = .ok (.putfield idx, 3)) (hn : pc + 3 = pc') (hw : Cond.fieldLink M.1 idx (TX0 6).1 (TX0 6).2.1 (TX0 6).2.2.1 ∈ TB)
    (kk : ∀ h', RdAt h' e n R a b ss x → Same e 3 h h' → AW l G M d mc ms Q k m h' lv st pc') : AW l G M d mc ms Q k m h lv (.int x :: .ref e :: st) pc :=
  aw_Oput (ci := 0) (kf := 6) (N := 7) (ty0 := tyX0) _ hR.1 hd hn rfl rfl inX0 tyX0_ok nmX0 (by decide) hw rfl trivial rfl fun h' hO hs => kk h' (hR.ob2 (Nat.le_refl _) (Or.inl rfl) hO hs) (hs.w (by omega) (by omega))
theorem aw_Rlen {idx : Nat} {x : Int32} (n' : Nat) (hR : RdAt h e n R a b ss r) (hd : decode M.2.1 pc = .ok (.putfield idx, 3)) (hn : pc + 3 = pc') (hw : Cond.fieldLink M.1 idx (TX0 2).1 (TX0 2).2.1 (TX0 2).2.2.1 ∈ TB) (hx : x = nI n' ∧ n' ≤ n)
    (kk : ∀ h', RdAt h' e n' R a b ss r → Same e 3 h h' → AW l G M d mc ms Q k m h' lv st pc') : AW l G M d mc ms Q k m h lv (.int x :: .ref e :: st) pc :=
  aw_Oput (ci := 0) (kf := 2) (N := 7) (ty0 := tyX0) _ hR.1 hd hn rfl rfl inX0 tyX0_ok nmX0 (by decide) hw rfl trivial rfl fun h' hO hs => kk h' (hR.ob2 hx.2 (Or.inl rfl) (by rw [← hx.1]; exact hO) hs) (hs.w (by omega) (by omega))
theorem aw_Rstp {idx : Nat} {x : Int32} (hR : RdAt h e n R a b ss r) (hd : decode M.2.1 pc = .ok (.putfield idx, 3)) (hn : pc + 3 = pc') (hw : Cond.fieldLink M.1 idx (TX0 5).1 (TX0 5).2.1 (TX0 5).2.2.1 ∈ TB) (hx : x = 0)
    (kk : ∀ h', RdAt h' e n R a b [] r → Same e 3 h h' → AW l G M d mc ms Q k m h' lv st pc') : AW l G M d mc ms Q k m h lv (.int x :: .ref e :: st) pc :=
  aw_Oput (ci := 0) (kf := 5) (N := 7) (ty0 := tyX0) _ hR.1 hd hn rfl rfl inX0 tyX0_ok nmX0 (by decide) hw rfl trivial rfl fun h' hO hs => kk h' (hR.ob2 (Nat.le_refl _) (Or.inr rfl) (by subst hx; exact hO) hs) (hs.w (by omega) (by omega))
theorem aw_Rtx {i : Int32} (j : Nat) (hR : RdAt h e n R a b ss r) (hd : decode M.2.1 pc = .ok (.baload, 1)) (hn : pc + 1 = pc') (hj : j < n) (hi : i = nI j) (h100 : n ≤ 100)
    (kk : AW l G M d mc ms Q k m h lv (.int (R j) :: st) pc') : AW l G M d mc ms Q k m h lv (.int i :: .ref (e + 1) :: st) pc := by
  obtain ⟨h1, ⟨T, h2, h3⟩, -⟩ := hR
  subst hi
  refine aw_Abl j h2 hd hn (vp_in_nI (by omega) (by omega)) (nI_clamp (by omega)) ?_
  rw [h3 j hj]
  exact kk
/-- the byte that comes next -/
def sg (R : Nat → Int32) (n a : Nat) : Int32 := if a < n then R a else -1
/-- bytes as they are fed -/
def RA (R : Nat → Int32) (n : Nat) : Prop := ∀ i, i < n → ∃ c, c < 128 ∧ R i = nI c
theorem sg_or (hA : RA R n) (a : Nat) : (sg R n a = -1 ∧ ¬ a < n) ∨ ∃ c, c < 128 ∧ sg R n a = nI c ∧ R a = nI c ∧ a < n := by
  unfold sg
  split
  · rename_i z
    obtain ⟨c, h1, h2⟩ := hA a z
    exact Or.inr ⟨c, h1, h2, h2, z⟩
  · rename_i z
    exact Or.inl ⟨rfl, z⟩
theorem sg_at (hA : RA R n) {c : Nat} (hc : c < 128) : pAt R n (a, b) (nI c) = (b && decide (sg R n a = nI c)) := by
  unfold pAt
  rcases sg_or hA a with ⟨e1, e2⟩ | ⟨c', h1, e1, e2, e3⟩
  · have z : ¬ (-1 : Int32) = nI c := fun y => by
      have := congrArg Int32.toInt y
      rw [nI_toInt (by omega), show (-1 : Int32).toInt = -1 from by decide] at this
      omega
    rw [e1, decide_eq_false e2, decide_eq_false z]
    simp
  · rw [e1, e2, decide_eq_true e3]
    simp
def ltN (R : Nat → Int32) (n : Nat) (B : Nat → Int32) (p : PP) : Nat → PP
  | 0 => p
  | j + 1 => pTk R n (ltN R n B p j) (B j)
theorem ltN_no {B : Nat → Int32} {p : PP} {j : Nat} (hz : (ltN R n B p j).2 = false) : ∀ m, ltN R n B p (j + m) = ltN R n B p j
  | 0 => rfl
  | m + 1 => by
    rw [← Nat.add_assoc, ltN, ltN_no hz m, pTk_no hz]
theorem ltN_le {B : Nat → Int32} {p : PP} (hp : p.1 ≤ n) : ∀ j, (ltN R n B p j).1 ≤ n
  | 0 => hp
  | j + 1 => pTk_le (ltN_le hp j)
theorem str_c : ∀ i ∈ List.range 6, ∀ j ∈ List.range (sLen.getD i 0), ∃ c ∈ List.range 128, (sByt.getD i []).getD j 0 = nI c := by decide +kernel
theorem zb_a1 (b : Bool) : zb b &&& 1 = zb b := by cases b <;> decide
theorem zb_a0 (b : Bool) : zb b &&& 0 = zb false := by cases b <;> decide

abbrev mX0_fault : MT := (RX0, cX0_fault, 1, (some .int), false)
theorem eX0_fault_0 : decode mX0_fault.2.1 0 = .ok (.aload_n 0, 1) := by decide +kernel
theorem eX0_fault_1 : decode mX0_fault.2.1 1 = .ok (.getfield 23, 3) := by decide +kernel
theorem eX0_fault_4 : decode mX0_fault.2.1 4 = .ok (.ireturn, 1) := by decide +kernel
theorem c_X0_fault (hR : RdAt h e n R a b ss r) (hd : 0 ≤ d) : Ct l G mX0_fault yX0_fault d 0 0 [.ref e] h (fun x h' => x = some (.int (nI a)) ∧ h' = h) := by
  refine ct_of (lv := [some (.ref e)]) (by decide +kernel) rfl (fun z => by cases z) (fun _ => rfl) (fun _ => Nat.le_of_ble_eq_true rfl) ?_
  refine aw_aload_n (pc' := 1) eX0_fault_0 rfl rfl trivial ?_
  refine aw_Oget (pc' := 4) (ci := 0) (kf := 3) (N := 7) (.int (nI (a))) (hR).1 eX0_fault_1 rfl rfl rfl inX0 (by decide) q186 rfl ?_
  refine aw_ret (v := some (.int _)) eX0_fault_4 ⟨rfl, rfl⟩ (by omega) (by omega) rfl ?_
  exact ⟨rfl, rfl⟩
abbrev mX0_sign : MT := (RX0, cX0_sign, 1, (some .int), false)
theorem eX0_sign_0 : decode mX0_sign.2.1 0 = .ok (.aload_n 0, 1) := by decide +kernel
theorem eX0_sign_1 : decode mX0_sign.2.1 1 = .ok (.getfield 23, 3) := by decide +kernel
theorem eX0_sign_4 : decode mX0_sign.2.1 4 = .ok (.aload_n 0, 1) := by decide +kernel
theorem eX0_sign_5 : decode mX0_sign.2.1 5 = .ok (.getfield 19, 3) := by decide +kernel
theorem eX0_sign_8 : decode mX0_sign.2.1 8 = .ok (.if_icmp .ge 15, 3) := by decide +kernel
theorem eX0_sign_11 : decode mX0_sign.2.1 11 = .ok (.aload_n 0, 1) := by decide +kernel
theorem eX0_sign_12 : decode mX0_sign.2.1 12 = .ok (.getfield 9, 3) := by decide +kernel
theorem eX0_sign_15 : decode mX0_sign.2.1 15 = .ok (.aload_n 0, 1) := by decide +kernel
theorem eX0_sign_16 : decode mX0_sign.2.1 16 = .ok (.getfield 23, 3) := by decide +kernel
theorem eX0_sign_19 : decode mX0_sign.2.1 19 = .ok (.baload, 1) := by decide +kernel
theorem eX0_sign_20 : decode mX0_sign.2.1 20 = .ok (.goto 4, 3) := by decide +kernel
theorem eX0_sign_23 : decode mX0_sign.2.1 23 = .ok (.iconst (-1), 1) := by decide +kernel
theorem eX0_sign_24 : decode mX0_sign.2.1 24 = .ok (.ireturn, 1) := by decide +kernel
theorem c_X0_sign (hR : RdAt h e n R a b ss r) (hn : n ≤ 100) (ha : a ≤ n) (hd : 0 ≤ d) : Ct l G mX0_sign yX0_sign d 0 0 [.ref e] h (fun x h' => x = some (.int (sg R n a)) ∧ h' = h) := by
  refine ct_of (lv := [some (.ref e)]) (by decide +kernel) rfl (fun z => by cases z) (fun _ => rfl) (fun _ => Nat.le_of_ble_eq_true rfl) ?_
  refine aw_aload_n (pc' := 1) eX0_sign_0 rfl rfl trivial ?_
  refine aw_Oget (pc' := 4) (ci := 0) (kf := 3) (N := 7) (.int (nI (a))) (hR).1 eX0_sign_1 rfl rfl rfl inX0 (by decide) q186 rfl ?_
  refine aw_aload_n (pc' := 5) eX0_sign_4 rfl rfl trivial ?_
  refine aw_Oget (pc' := 8) (ci := 0) (kf := 2) (N := 7) (.int (nI n)) (hR).1 eX0_sign_5 rfl rfl rfl inX0 (by decide) q184 rfl ?_
  refine aw_icmp_ge (pc' := 11) (tgt := 23) eX0_sign_8 rfl (by decide) (fun c_8 => ?_) (fun c_8 => ?_)
  · refine aw_iconst (pc' := 24) (v := -1) eX0_sign_23 rfl (by decide) ?_
    refine aw_ret (v := some (.int _)) eX0_sign_24 ⟨rfl, rfl⟩ (by omega) (by omega) rfl ?_
    exact ⟨by rw [sg, if_neg (by have := ge_nI (a := a) (b := n) (by omega) (by omega) c_8; omega)], rfl⟩
  · refine aw_aload_n (pc' := 12) eX0_sign_11 rfl rfl trivial ?_
    refine aw_Oget (pc' := 15) (ci := 0) (kf := 0) (N := 7) (.ref (e + 1)) (hR).1 eX0_sign_12 rfl rfl rfl inX0 (by decide) q182 rfl ?_
    refine aw_aload_n (pc' := 16) eX0_sign_15 rfl rfl trivial ?_
    refine aw_Oget (pc' := 19) (ci := 0) (kf := 3) (N := 7) (.int (nI (a))) (hR).1 eX0_sign_16 rfl rfl rfl inX0 (by decide) q186 rfl ?_
    refine aw_Rtx (pc' := 20) a hR eX0_sign_19 rfl (nge_nI (by omega) (by omega) c_8) rfl (by omega) ?_
    refine aw_goto eX0_sign_20 (by decide) (tgt := 24) ?_
    refine aw_ret (v := some (.int _)) eX0_sign_24 ⟨rfl, rfl⟩ (by omega) (by omega) rfl ?_
    exact ⟨by rw [sg, if_pos (nge_nI (by omega) (by omega) c_8)], rfl⟩
abbrev mX0_letters : MT := (RX0, cX0_letters, 3, none, false)
theorem eX0_letters_0 : decode mX0_letters.2.1 0 = .ok (.iconst 0, 1) := by decide +kernel
theorem eX0_letters_1 : decode mX0_letters.2.1 1 = .ok (.istore_n 2, 1) := by decide +kernel
theorem eX0_letters_2 : decode mX0_letters.2.1 2 = .ok (.iload_n 2, 1) := by decide +kernel
theorem eX0_letters_3 : decode mX0_letters.2.1 3 = .ok (.aload_n 1, 1) := by decide +kernel
theorem eX0_letters_4 : decode mX0_letters.2.1 4 = .ok (.invokevirtual 93, 3) := by decide +kernel
theorem eX0_letters_7 : decode mX0_letters.2.1 7 = .ok (.if_icmp .ge 46, 3) := by decide +kernel
theorem eX0_letters_10 : decode mX0_letters.2.1 10 = .ok (.aload_n 0, 1) := by decide +kernel
theorem eX0_letters_11 : decode mX0_letters.2.1 11 = .ok (.getfield 26, 3) := by decide +kernel
theorem eX0_letters_14 : decode mX0_letters.2.1 14 = .ok (.ifCond .eq 39, 3) := by decide +kernel
theorem eX0_letters_17 : decode mX0_letters.2.1 17 = .ok (.aload_n 0, 1) := by decide +kernel
theorem eX0_letters_18 : decode mX0_letters.2.1 18 = .ok (.invokevirtual 39, 3) := by decide +kernel
theorem eX0_letters_21 : decode mX0_letters.2.1 21 = .ok (.aload_n 1, 1) := by decide +kernel
theorem eX0_letters_22 : decode mX0_letters.2.1 22 = .ok (.iload_n 2, 1) := by decide +kernel
theorem eX0_letters_23 : decode mX0_letters.2.1 23 = .ok (.invokevirtual 95, 3) := by decide +kernel
theorem eX0_letters_26 : decode mX0_letters.2.1 26 = .ok (.if_icmp .ne 16, 3) := by decide +kernel
theorem eX0_letters_29 : decode mX0_letters.2.1 29 = .ok (.aload_n 0, 1) := by decide +kernel
theorem eX0_letters_30 : decode mX0_letters.2.1 30 = .ok (.dup, 1) := by decide +kernel
theorem eX0_letters_31 : decode mX0_letters.2.1 31 = .ok (.getfield 23, 3) := by decide +kernel
theorem eX0_letters_34 : decode mX0_letters.2.1 34 = .ok (.iconst 1, 1) := by decide +kernel
theorem eX0_letters_35 : decode mX0_letters.2.1 35 = .ok (.iadd, 1) := by decide +kernel
theorem eX0_letters_36 : decode mX0_letters.2.1 36 = .ok (.putfield 23, 3) := by decide +kernel
theorem eX0_letters_39 : decode mX0_letters.2.1 39 = .ok (.goto 8, 3) := by decide +kernel
theorem eX0_letters_42 : decode mX0_letters.2.1 42 = .ok (.aload_n 0, 1) := by decide +kernel
theorem eX0_letters_43 : decode mX0_letters.2.1 43 = .ok (.iconst 0, 1) := by decide +kernel
theorem eX0_letters_44 : decode mX0_letters.2.1 44 = .ok (.putfield 26, 3) := by decide +kernel
theorem eX0_letters_47 : decode mX0_letters.2.1 47 = .ok (.iinc 2 1, 3) := by decide +kernel
theorem eX0_letters_50 : decode mX0_letters.2.1 50 = .ok (.goto (-48), 3) := by decide +kernel
theorem eX0_letters_53 : decode mX0_letters.2.1 53 = .ok (.return_, 1) := by decide +kernel
theorem lp_X0_letters {i : Nat} (hi : i < 6) (hn : n ≤ 100) (hA : RA R n) (ha : a ≤ n) (hd : 4 ≤ d) {h0 : Hp} (hQ : ∀ h', RdAt h' e n R (ltN R n (fun j => (sByt.getD i []).getD j 0) (a, b) (sLen.getD i 0)).1 (ltN R n (fun j => (sByt.getD i []).getD j 0) (a, b) (sLen.getD i 0)).2 ss r → Same e 3 h0 h' → Q none h') : ∀ (g j : Nat) (y : Int32) (h : Hp), g = sLen.getD i 0 - j → j ≤ sLen.getD i 0 → y = nI j → RdAt h e n R (ltN R n (fun j => (sByt.getD i []).getD j 0) (a, b) j).1 (ltN R n (fun j => (sByt.getD i []).getD j 0) (a, b) j).2 ss r → Same e 3 h0 h → AW l G mX0_letters d 0 0 Q 0 0 h [some (.ref e), some (.ref (3 + i)), some (.int y)] [] 2 := by
  intro g
  induction g using Nat.strongRecOn with
  | _ g ih =>
    intro j y h hj hjl hy hR hs
    subst hy hj
    have hlen := (str_l i (List.mem_range.mpr hi)).1
    refine aw_iload_n (pc' := 3) eX0_letters_2 rfl rfl ?_
    refine aw_aload_n (pc' := 4) eX0_letters_3 rfl rfl trivial ?_
    refine aw_callS (pc' := 7) (nn := 0) (c_J0_length_8abf5 (d := d - 1) hi (by omega)) eX0_letters_4 rfl ⟨q433, q90, q57⟩ q88 q89 ⟨rfl, by decide +kernel, by decide +kernel, by decide +kernel⟩ rfl ⟨by omega, by omega⟩ ⟨by omega, by decide⟩ ⟨by omega, by omega⟩ rfl (Nat.le_of_ble_eq_true rfl) (fun v1 h2 hq3 => ?_)
    obtain ⟨rfl, rfl⟩ := hq3
    dsimp only [Option.toList, List.cons_append, List.nil_append]
    refine aw_icmp_ge (pc' := 10) (tgt := 53) eX0_letters_7 rfl (by decide) (fun c_7 => ?_) (fun c_7 => ?_)
    · refine aw_ret (v := none) eX0_letters_53 rfl (by omega) (by omega) rfl ?_
      have c9 := ge_nI (by omega) (by have := (str_l i (List.mem_range.mpr hi)).1; omega) c_7
      obtain rfl : j = sLen.getD i 0 := by omega
      exact hQ _ hR hs
    · have c9 := nge_nI (by omega) (by have := (str_l i (List.mem_range.mpr hi)).1; omega) c_7
      refine aw_aload_n (pc' := 11) eX0_letters_10 rfl rfl trivial ?_
      refine aw_Oget (pc' := 14) (ci := 0) (kf := 4) (N := 7) (.int (zb (ltN R n (fun j => (sByt.getD i []).getD j 0) (a, b) j).2)) (hR).1 eX0_letters_11 rfl rfl rfl inX0 (by decide) q187 rfl ?_
      refine aw_if_eq (pc' := 17) (tgt := 53) eX0_letters_14 rfl (by decide) (fun c_14 => ?_) (fun c_14 => ?_)
      · refine aw_ret (v := none) eX0_letters_53 rfl (by omega) (by omega) rfl ?_
        have hz := zb_eq0.mp c_14
        have e9 := ltN_no hz (sLen.getD i 0 - j)
        rw [show j + (sLen.getD i 0 - j) = sLen.getD i 0 by omega] at e9
        rw [e9] at hQ
        exact hQ _ hR hs
      · refine aw_aload_n (pc' := 18) eX0_letters_17 rfl rfl trivial ?_
        refine aw_callv (pc' := 21) (nn := 0) (c_X0_sign (d := d - 1) hR hn (ltN_le (p := (a, b)) ha _) (by omega)) eX0_letters_18 rfl ⟨q424, q427, q59⟩ q426 q8 ⟨rfl, by decide +kernel, by decide +kernel, by decide +kernel⟩ rfl (hR).ob rfl ⟨by omega, by decide⟩ ⟨by omega, by omega⟩ rfl (Nat.le_of_ble_eq_true rfl) (fun v4 h5 hq6 => ?_)
        obtain ⟨rfl, rfl⟩ := hq6
        dsimp only [Option.toList, List.cons_append, List.nil_append]
        refine aw_aload_n (pc' := 22) eX0_letters_21 rfl rfl trivial ?_
        refine aw_iload_n (pc' := 23) eX0_letters_22 rfl rfl ?_
        refine aw_callS (pc' := 26) (nn := 1) (c_J0_charAt_5068e (d := d - 1) hi c9 (by omega)) eX0_letters_23 rfl ⟨q434, q437, q57⟩ q435 q436 ⟨rfl, by decide +kernel, by decide +kernel, by decide +kernel⟩ rfl ⟨by omega, by omega⟩ ⟨by omega, by decide⟩ ⟨by omega, by omega⟩ rfl (Nat.le_of_ble_eq_true rfl) (fun v7 h8 hq9 => ?_)
        obtain ⟨rfl, rfl⟩ := hq9
        dsimp only [Option.toList, List.cons_append, List.nil_append]
        refine aw_icmp_ne (pc' := 29) (tgt := 42) eX0_letters_26 rfl (by decide) (fun c_26 => ?_) (fun c_26 => ?_)
        · refine aw_aload_n (pc' := 43) eX0_letters_42 rfl rfl trivial ?_
          refine aw_iconst (pc' := 44) (v := 0) eX0_letters_43 rfl (by decide) ?_
          refine aw_Rfit (pc' := 47) false hR eX0_letters_44 rfl q187 rfl (fun h12 hR10 hs11 => ?_)
          refine aw_iinc (pc' := 50) eX0_letters_47 rfl rfl rfl (by decide) ?_
          dsimp only [zst, zst2, zcut]
          refine aw_goto eX0_letters_50 (by decide) (tgt := 2) ?_
          have hb1 : (ltN R n (fun j => (sByt.getD i []).getD j 0) (a, b) j).2 = true := zb_ne0.mp c_14
          obtain ⟨cc, hcc, ec⟩ := str_c i (List.mem_range.mpr hi) j (List.mem_range.mpr c9)
          have hpa := sg_at (a := (ltN R n (fun j => (sByt.getD i []).getD j 0) (a, b) j).1) (b := (ltN R n (fun j => (sByt.getD i []).getD j 0) (a, b) j).2) hA (List.mem_range.mp hcc)
          rw [← ec] at hpa
          have ep : pAt R n (ltN R n (fun j => (sByt.getD i []).getD j 0) (a, b) j) ((sByt.getD i []).getD j 0) = false := by rw [show (ltN R n (fun j => (sByt.getD i []).getD j 0) (a, b) j) = ((ltN R n (fun j => (sByt.getD i []).getD j 0) (a, b) j).1, (ltN R n (fun j => (sByt.getD i []).getD j 0) (a, b) j).2) from rfl, hpa, hb1, decide_eq_false c_26]; rfl
          have es : ltN R n (fun j => (sByt.getD i []).getD j 0) (a, b) (j + 1) = ((ltN R n (fun j => (sByt.getD i []).getD j 0) (a, b) j).1, false) := by
            show pTk R n (ltN R n (fun j => (sByt.getD i []).getD j 0) (a, b) j) ((sByt.getD i []).getD j 0) = _
            rw [pTk, if_neg (by rw [ep]; decide)]
          exact ih (sLen.getD i 0 - (j + 1)) (by omega) (j + 1) _ _ rfl (by omega) (nI_inc j) (by rw [es]; exact hR10) (hs.tr hs11)
        · refine aw_aload_n (pc' := 30) eX0_letters_29 rfl rfl trivial ?_
          refine aw_dup (pc' := 31) eX0_letters_30 rfl rfl ?_
          refine aw_Oget (pc' := 34) (ci := 0) (kf := 3) (N := 7) (.int (nI ((ltN R n (fun j => (sByt.getD i []).getD j 0) (a, b) j).1))) (hR).1 eX0_letters_31 rfl rfl rfl inX0 (by decide) q186 rfl ?_
          refine aw_iconst (pc' := 35) (v := 1) eX0_letters_34 rfl (by decide) ?_
          refine aw_iadd (pc' := 36) eX0_letters_35 rfl ?_
          refine aw_Rat (pc' := 39) ((ltN R n (fun j => (sByt.getD i []).getD j 0) (a, b) j).1 + 1) hR eX0_letters_36 rfl q186 (nI_1 ((ltN R n (fun j => (sByt.getD i []).getD j 0) (a, b) j).1)) (fun h15 hR13 hs14 => ?_)
          refine aw_goto eX0_letters_39 (by decide) (tgt := 47) ?_
          refine aw_iinc (pc' := 50) eX0_letters_47 rfl rfl rfl (by decide) ?_
          dsimp only [zst, zst2, zcut]
          refine aw_goto eX0_letters_50 (by decide) (tgt := 2) ?_
          have hb1 : (ltN R n (fun j => (sByt.getD i []).getD j 0) (a, b) j).2 = true := zb_ne0.mp c_14
          obtain ⟨cc, hcc, ec⟩ := str_c i (List.mem_range.mpr hi) j (List.mem_range.mpr c9)
          have hpa := sg_at (a := (ltN R n (fun j => (sByt.getD i []).getD j 0) (a, b) j).1) (b := (ltN R n (fun j => (sByt.getD i []).getD j 0) (a, b) j).2) hA (List.mem_range.mp hcc)
          rw [← ec] at hpa
          have ep : pAt R n (ltN R n (fun j => (sByt.getD i []).getD j 0) (a, b) j) ((sByt.getD i []).getD j 0) = true := by rw [show (ltN R n (fun j => (sByt.getD i []).getD j 0) (a, b) j) = ((ltN R n (fun j => (sByt.getD i []).getD j 0) (a, b) j).1, (ltN R n (fun j => (sByt.getD i []).getD j 0) (a, b) j).2) from rfl, hpa, hb1, decide_eq_true c_26]; rfl
          have es : ltN R n (fun j => (sByt.getD i []).getD j 0) (a, b) (j + 1) = ((ltN R n (fun j => (sByt.getD i []).getD j 0) (a, b) j).1 + 1, (ltN R n (fun j => (sByt.getD i []).getD j 0) (a, b) j).2) := by
            show pTk R n (ltN R n (fun j => (sByt.getD i []).getD j 0) (a, b) j) ((sByt.getD i []).getD j 0) = _
            rw [pTk, if_pos ep]
          exact ih (sLen.getD i 0 - (j + 1)) (by omega) (j + 1) _ _ rfl (by omega) (nI_inc j) (by rw [es]; exact hR13) (hs.tr hs14)
theorem c_X0_letters (hR : RdAt h e n R a b ss r) (hn : n ≤ 100) (hA : RA R n) (ha : a ≤ n) {i : Nat} (hi : i < 6) (hd : 4 ≤ d) : Ct l G mX0_letters yX0_letters d 0 0 [.ref e, .ref (3 + i)] h (fun x h' => x = none ∧ RdAt h' e n R (ltN R n (fun j => (sByt.getD i []).getD j 0) (a, b) (sLen.getD i 0)).1 (ltN R n (fun j => (sByt.getD i []).getD j 0) (a, b) (sLen.getD i 0)).2 ss r ∧ Same e 3 h h') := by
  refine ct_of (lv := [some (.ref e), some (.ref (3 + i)), none]) (by decide +kernel) rfl (fun z => by cases z) (fun _ => rfl) (fun _ => Nat.le_of_ble_eq_true rfl) ?_
  refine aw_iconst (pc' := 1) (v := 0) eX0_letters_0 rfl (by decide) ?_
  refine aw_istore_n (pc' := 2) eX0_letters_1 rfl (by decide) ?_
  dsimp only [zst, zst2, zcut]
  exact lp_X0_letters hi hn hA ha hd (fun h' a b => ⟨rfl, a, b⟩) (sLen.getD i 0) 0 _ _ (by omega) (by omega) rfl hR Same.rf
end C8
