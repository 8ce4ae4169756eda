/-! the class AmberGrains: rows told by hand -/
section C19
variable {F : FT} {l : Launch} {G : GT} {d m t a : Nat} {g : Nat → Int32} {f : Nat → Int32} {h : Hp} {Q : Option Value → Hp → Prop} {bi se : Int32}
def rw3 (f : Nat → Int32) (a : Nat) (x y z : Int32) : Nat → Int32 := upd (upd (upd f (3 * a) x) (3 * a + 1) y) (3 * a + 2) z
abbrev RWT : Type := Int32 × Nat × (Nat → Int32)
def cSee (m a : Nat) (f : Nat → Int32) (t n s : Int32) : RWT := if t = -1 then (0, 0, f) else if bIn t 0 (nI m - 1) = true then if bIn n 0 12 = true ∧ bIn s 0 4 = true then if a = 5 then (-4, a, f) else (nI (a + 1), a + 1, rw3 f a t n s) else (-2, a, f) else (-1, a, f)
def cPlan (m a : Nat) (f : Nat → Int32) (t p : Int32) : RWT := if t = -1 then (0, 0, f) else if sPlanOk m t p = true then if a = 10 then (-4, a, f) else (nI (a + 1), a + 1, rw3 f a t p 0) else (-1, a, f)
def cBook (m a : Nat) (f : Nat → Int32) (t p : Int32) : RWT := if t = -1 then (0, 0, f) else if bIn t 0 (nI m - 1) = true ∧ bIn p 0 11 = true then if a = 8 then (-4, a, f) else (nI (a + 1), a + 1, rw3 f a t p 0) else (-1, a, f)
theorem pl_no {t p : Int32} (hz : bIn t 0 3 = false) : sPlanOk m t p = false := by
  have n : ∀ c : Int32, bIn c 0 3 = true → decide (t = c) = false := fun c hc => decide_eq_false (fun z => by rw [z, hc] at hz; cases hz)
  unfold sPlanOk
  rw [n 0 (by decide), n 1 (by decide), n 2 (by decide), n 3 (by decide)]
  rfl
theorem in03 {t : Int32} (hz : bIn t 0 3 = true) (h1 : ¬ t = 1) (h2 : ¬ t = 2) (h3 : ¬ t = 3) : t = 0 := by
  obtain ⟨v, hv, rfl⟩ := (bIn_lit (N := 3) (by omega)).mp (show bIn t 0 (nI 3) = true from hz)
  rcases (by omega : v = 0 ∨ v = 1 ∨ v = 2 ∨ v = 3) with rfl | rfl | rfl | rfl
  · rfl
  · exact absurd rfl h1
  · exact absurd rfl h2
  · exact absurd rfl h3

abbrev mX6_see : MT := (RX6, cX6_see, 4, (some .int), false)
theorem eX6_see_0 : decode mX6_see.2.1 0 = .ok (.iload_n 1, 1) := by decide +kernel
theorem eX6_see_1 : decode mX6_see.2.1 1 = .ok (.iconst (-1), 1) := by decide +kernel
theorem eX6_see_2 : decode mX6_see.2.1 2 = .ok (.if_icmp .ne 11, 3) := by decide +kernel
theorem eX6_see_5 : decode mX6_see.2.1 5 = .ok (.aload_n 0, 1) := by decide +kernel
theorem eX6_see_6 : decode mX6_see.2.1 6 = .ok (.getfield 34, 3) := by decide +kernel
theorem eX6_see_9 : decode mX6_see.2.1 9 = .ok (.invokevirtual 186, 3) := by decide +kernel
theorem eX6_see_12 : decode mX6_see.2.1 12 = .ok (.ireturn, 1) := by decide +kernel
theorem eX6_see_13 : decode mX6_see.2.1 13 = .ok (.aload_n 0, 1) := by decide +kernel
theorem eX6_see_14 : decode mX6_see.2.1 14 = .ok (.getfield 16, 3) := by decide +kernel
theorem eX6_see_17 : decode mX6_see.2.1 17 = .ok (.iload_n 1, 1) := by decide +kernel
theorem eX6_see_18 : decode mX6_see.2.1 18 = .ok (.invokevirtual 85, 3) := by decide +kernel
theorem eX6_see_21 : decode mX6_see.2.1 21 = .ok (.ifCond .ne 5, 3) := by decide +kernel
theorem eX6_see_24 : decode mX6_see.2.1 24 = .ok (.iconst (-1), 1) := by decide +kernel
theorem eX6_see_25 : decode mX6_see.2.1 25 = .ok (.ireturn, 1) := by decide +kernel
theorem eX6_see_26 : decode mX6_see.2.1 26 = .ok (.iload_n 2, 1) := by decide +kernel
theorem eX6_see_27 : decode mX6_see.2.1 27 = .ok (.ifCond .lt 18, 3) := by decide +kernel
theorem eX6_see_30 : decode mX6_see.2.1 30 = .ok (.iload_n 2, 1) := by decide +kernel
theorem eX6_see_31 : decode mX6_see.2.1 31 = .ok (.bipush 12, 2) := by decide +kernel
theorem eX6_see_33 : decode mX6_see.2.1 33 = .ok (.if_icmp .gt 12, 3) := by decide +kernel
theorem eX6_see_36 : decode mX6_see.2.1 36 = .ok (.iload_n 3, 1) := by decide +kernel
theorem eX6_see_37 : decode mX6_see.2.1 37 = .ok (.ifCond .lt 8, 3) := by decide +kernel
theorem eX6_see_40 : decode mX6_see.2.1 40 = .ok (.iload_n 3, 1) := by decide +kernel
theorem eX6_see_41 : decode mX6_see.2.1 41 = .ok (.iconst 4, 1) := by decide +kernel
theorem eX6_see_42 : decode mX6_see.2.1 42 = .ok (.if_icmp .le 6, 3) := by decide +kernel
theorem eX6_see_45 : decode mX6_see.2.1 45 = .ok (.bipush (-2), 2) := by decide +kernel
theorem eX6_see_47 : decode mX6_see.2.1 47 = .ok (.ireturn, 1) := by decide +kernel
theorem eX6_see_48 : decode mX6_see.2.1 48 = .ok (.aload_n 0, 1) := by decide +kernel
theorem eX6_see_49 : decode mX6_see.2.1 49 = .ok (.getfield 34, 3) := by decide +kernel
theorem eX6_see_52 : decode mX6_see.2.1 52 = .ok (.iload_n 1, 1) := by decide +kernel
theorem eX6_see_53 : decode mX6_see.2.1 53 = .ok (.iload_n 2, 1) := by decide +kernel
theorem eX6_see_54 : decode mX6_see.2.1 54 = .ok (.iload_n 3, 1) := by decide +kernel
theorem eX6_see_55 : decode mX6_see.2.1 55 = .ok (.invokevirtual 189, 3) := by decide +kernel
theorem eX6_see_58 : decode mX6_see.2.1 58 = .ok (.ireturn, 1) := by decide +kernel
theorem c_X6_see (hO : OA h 16 (.inr (6, afs bi se))) (hN : WF F h 17 g (nI 9999)) (hm : g 60 = nI m) (hm6 : m ≤ 6) (hS : RAt h 47 5 a f) (ha : a ≤ 5) (tl n s : Int32) (hd : 2 ≤ d) : Ct l G mX6_see yX6_see d 0 0 [.ref 16, .int tl, .int n, .int s] h (fun r h' => r = some (.int (cSee m a f tl n s).1) ∧ RAt h' 47 5 (cSee m a f tl n s).2.1 (cSee m a f tl n s).2.2 ∧ Same 47 2 h h') := by
  refine ct_of (lv := [some (.ref 16), some (.int tl), some (.int n), some (.int s)]) (by decide +kernel) rfl (fun z => by cases z) (fun _ => rfl) (fun _ => Nat.le_of_ble_eq_true rfl) ?_
  refine aw_iload_n (pc' := 1) eX6_see_0 rfl rfl ?_
  refine aw_iconst (pc' := 2) (v := -1) eX6_see_1 rfl (by decide) ?_
  refine aw_icmp_ne (pc' := 5) (tgt := 13) eX6_see_2 rfl (by decide) (fun c_2 => ?_) (fun c_2 => ?_)
  · refine aw_aload_n (pc' := 14) eX6_see_13 rfl rfl trivial ?_
    refine aw_Oget (pc' := 17) (ci := 6) (kf := 0) (N := 14) (.ref 17) hO eX6_see_14 rfl rfl rfl inX6 (by decide) q250 rfl ?_
    refine aw_iload_n (pc' := 18) eX6_see_17 rfl rfl ?_
    refine aw_callv (pc' := 21) (nn := 1) (c_X5_has (d := d - 1) hN hm hm6 _ (by omega)) eX6_see_18 rfl ⟨q305, q308, q56⟩ q306 q307 ⟨rfl, by decide +kernel, by decide +kernel, by decide +kernel⟩ rfl hN.ob rfl ⟨by omega, by decide⟩ ⟨by omega, by omega⟩ rfl (Nat.le_of_ble_eq_true rfl) (fun v1 h2 hq3 => ?_)
    obtain ⟨rfl, rfl⟩ := hq3
    dsimp only [Option.toList, List.cons_append, List.nil_append]
    refine aw_if_ne (pc' := 24) (tgt := 26) eX6_see_21 rfl (by decide) (fun c_21 => ?_) (fun c_21 => ?_)
    · refine aw_iload_n (pc' := 27) eX6_see_26 rfl rfl ?_
      refine aw_if_lt (pc' := 30) (tgt := 45) eX6_see_27 rfl (by decide) (fun c_27 => ?_) (fun c_27 => ?_)
      · refine aw_bipush (pc' := 47) (v := -2) eX6_see_45 rfl (by decide) ?_
        refine aw_ret (v := some (.int _)) eX6_see_47 ⟨rfl, rfl⟩ (by omega) (by omega) rfl ?_
        rw [cSee, if_neg c_2, if_pos (zb_ne0.mp c_21), if_neg (fun z => by rw [(bI_f1 c_27)] at z; exact absurd z.1 (by decide))]
        exact ⟨rfl, hS, Same.rf⟩
      · refine aw_iload_n (pc' := 31) eX6_see_30 rfl rfl ?_
        refine aw_bipush (pc' := 33) (v := 12) eX6_see_31 rfl (by decide) ?_
        refine aw_icmp_gt (pc' := 36) (tgt := 45) eX6_see_33 rfl (by decide) (fun c_33 => ?_) (fun c_33 => ?_)
        · refine aw_bipush (pc' := 47) (v := -2) eX6_see_45 rfl (by decide) ?_
          refine aw_ret (v := some (.int _)) eX6_see_47 ⟨rfl, rfl⟩ (by omega) (by omega) rfl ?_
          rw [cSee, if_neg c_2, if_pos (zb_ne0.mp c_21), if_neg (fun z => by rw [(bI_fgt c_33)] at z; exact absurd z.1 (by decide))]
          exact ⟨rfl, hS, Same.rf⟩
        · refine aw_iload_n (pc' := 37) eX6_see_36 rfl rfl ?_
          refine aw_if_lt (pc' := 40) (tgt := 45) eX6_see_37 rfl (by decide) (fun c_37 => ?_) (fun c_37 => ?_)
          · refine aw_bipush (pc' := 47) (v := -2) eX6_see_45 rfl (by decide) ?_
            refine aw_ret (v := some (.int _)) eX6_see_47 ⟨rfl, rfl⟩ (by omega) (by omega) rfl ?_
            rw [cSee, if_neg c_2, if_pos (zb_ne0.mp c_21), if_neg (fun z => by rw [(bI_f1 c_37)] at z; exact absurd z.2 (by decide))]
            exact ⟨rfl, hS, Same.rf⟩
          · refine aw_iload_n (pc' := 41) eX6_see_40 rfl rfl ?_
            refine aw_iconst (pc' := 42) (v := 4) eX6_see_41 rfl (by decide) ?_
            refine aw_icmp_le (pc' := 45) (tgt := 48) eX6_see_42 rfl (by decide) (fun c_42 => ?_) (fun c_42 => ?_)
            · by_cases cf : a = 5
              · subst cf
                refine aw_aload_n (pc' := 49) eX6_see_48 rfl rfl trivial ?_
                refine aw_Oget (pc' := 52) (ci := 6) (kf := 4) (N := 14) (.ref 47) hO eX6_see_49 rfl rfl rfl inX6 (by decide) q254 rfl ?_
                refine aw_iload_n (pc' := 53) eX6_see_52 rfl rfl ?_
                refine aw_iload_n (pc' := 54) eX6_see_53 rfl rfl ?_
                refine aw_iload_n (pc' := 55) eX6_see_54 rfl rfl ?_
                refine aw_callv (pc' := 58) (nn := 3) (f_X1_takes (d := d - 1) hS (by omega) _ _ _ (by omega)) eX6_see_55 rfl ⟨q629, q632, q58⟩ q630 q631 ⟨rfl, by decide +kernel, by decide +kernel, by decide +kernel⟩ rfl hS.ob rfl ⟨by omega, by decide⟩ ⟨by omega, by omega⟩ rfl (Nat.le_of_ble_eq_true rfl) (fun v6 h7 hq8 => ?_)
                obtain ⟨rfl, rfl⟩ := hq8
                dsimp only [Option.toList, List.cons_append, List.nil_append]
                refine aw_ret (v := some (.int _)) eX6_see_58 ⟨rfl, rfl⟩ (by omega) (by omega) rfl ?_
                rw [cSee, if_neg c_2, if_pos (zb_ne0.mp c_21), if_pos ⟨(bI_tgt c_27 c_33), (bI_tle c_37 c_42)⟩, if_pos rfl]
                exact ⟨rfl, hS, Same.rf⟩
              · refine aw_aload_n (pc' := 49) eX6_see_48 rfl rfl trivial ?_
                refine aw_Oget (pc' := 52) (ci := 6) (kf := 4) (N := 14) (.ref 47) hO eX6_see_49 rfl rfl rfl inX6 (by decide) q254 rfl ?_
                refine aw_iload_n (pc' := 53) eX6_see_52 rfl rfl ?_
                refine aw_iload_n (pc' := 54) eX6_see_53 rfl rfl ?_
                refine aw_iload_n (pc' := 55) eX6_see_54 rfl rfl ?_
                refine aw_callv (pc' := 58) (nn := 3) (c_X1_takes (d := d - 1) hS (by omega) (by omega) _ _ _ (by omega)) eX6_see_55 rfl ⟨q629, q632, q58⟩ q630 q631 ⟨rfl, by decide +kernel, by decide +kernel, by decide +kernel⟩ rfl hS.ob rfl ⟨by omega, by decide⟩ ⟨by omega, by omega⟩ rfl (Nat.le_of_ble_eq_true rfl) (fun v11 h12 hq13 => ?_)
                obtain ⟨rfl, hS9, hs10⟩ := hq13
                have hF14 := hO.fr hs10 (by omega)
                have hF15 := hN.fr hs10 (by omega)
                dsimp only [Option.toList, List.cons_append, List.nil_append]
                refine aw_ret (v := some (.int _)) eX6_see_58 ⟨rfl, rfl⟩ (by omega) (by omega) rfl ?_
                rw [cSee, if_neg c_2, if_pos (zb_ne0.mp c_21), if_pos ⟨(bI_tgt c_27 c_33), (bI_tle c_37 c_42)⟩, if_neg cf]
                exact ⟨rfl, hS9, hs10⟩
            · refine aw_bipush (pc' := 47) (v := -2) eX6_see_45 rfl (by decide) ?_
              refine aw_ret (v := some (.int _)) eX6_see_47 ⟨rfl, rfl⟩ (by omega) (by omega) rfl ?_
              rw [cSee, if_neg c_2, if_pos (zb_ne0.mp c_21), if_neg (fun z => by rw [(bI_fle c_42)] at z; exact absurd z.2 (by decide))]
              exact ⟨rfl, hS, Same.rf⟩
    · refine aw_iconst (pc' := 25) (v := -1) eX6_see_24 rfl (by decide) ?_
      refine aw_ret (v := some (.int _)) eX6_see_25 ⟨rfl, rfl⟩ (by omega) (by omega) rfl ?_
      rw [cSee, if_neg c_2, if_neg (by rw [(zb_eq0.mp c_21)]; decide)]
      exact ⟨rfl, hS, Same.rf⟩
  · refine aw_aload_n (pc' := 6) eX6_see_5 rfl rfl trivial ?_
    refine aw_Oget (pc' := 9) (ci := 6) (kf := 4) (N := 14) (.ref 47) hO eX6_see_6 rfl rfl rfl inX6 (by decide) q254 rfl ?_
    refine aw_callv (pc' := 12) (nn := 0) (c_X1_emptied (d := d - 1) hS (by omega)) eX6_see_9 rfl ⟨q625, q628, q58⟩ q626 q627 ⟨rfl, by decide +kernel, by decide +kernel, by decide +kernel⟩ rfl hS.ob rfl ⟨by omega, by decide⟩ ⟨by omega, by omega⟩ rfl (Nat.le_of_ble_eq_true rfl) (fun v18 h19 hq20 => ?_)
    obtain ⟨rfl, hS16, hs17⟩ := hq20
    have hF21 := hO.fr hs17 (by omega)
    have hF22 := hN.fr hs17 (by omega)
    dsimp only [Option.toList, List.cons_append, List.nil_append]
    refine aw_ret (v := some (.int _)) eX6_see_12 ⟨rfl, rfl⟩ (by omega) (by omega) rfl ?_
    rw [cSee, if_pos c_2]
    exact ⟨rfl, hS16, hs17⟩
abbrev mX6_book : MT := (RX6, cX6_book, 3, (some .int), false)
theorem eX6_book_0 : decode mX6_book.2.1 0 = .ok (.iload_n 1, 1) := by decide +kernel
theorem eX6_book_1 : decode mX6_book.2.1 1 = .ok (.iconst (-1), 1) := by decide +kernel
theorem eX6_book_2 : decode mX6_book.2.1 2 = .ok (.if_icmp .ne 11, 3) := by decide +kernel
theorem eX6_book_5 : decode mX6_book.2.1 5 = .ok (.aload_n 0, 1) := by decide +kernel
theorem eX6_book_6 : decode mX6_book.2.1 6 = .ok (.getfield 41, 3) := by decide +kernel
theorem eX6_book_9 : decode mX6_book.2.1 9 = .ok (.invokevirtual 186, 3) := by decide +kernel
theorem eX6_book_12 : decode mX6_book.2.1 12 = .ok (.ireturn, 1) := by decide +kernel
theorem eX6_book_13 : decode mX6_book.2.1 13 = .ok (.aload_n 0, 1) := by decide +kernel
theorem eX6_book_14 : decode mX6_book.2.1 14 = .ok (.getfield 16, 3) := by decide +kernel
theorem eX6_book_17 : decode mX6_book.2.1 17 = .ok (.iload_n 1, 1) := by decide +kernel
theorem eX6_book_18 : decode mX6_book.2.1 18 = .ok (.invokevirtual 85, 3) := by decide +kernel
theorem eX6_book_21 : decode mX6_book.2.1 21 = .ok (.ifCond .eq 10, 3) := by decide +kernel
theorem eX6_book_24 : decode mX6_book.2.1 24 = .ok (.iload_n 2, 1) := by decide +kernel
theorem eX6_book_25 : decode mX6_book.2.1 25 = .ok (.invokestatic 138, 3) := by decide +kernel
theorem eX6_book_28 : decode mX6_book.2.1 28 = .ok (.ifCond .ne 5, 3) := by decide +kernel
theorem eX6_book_31 : decode mX6_book.2.1 31 = .ok (.iconst (-1), 1) := by decide +kernel
theorem eX6_book_32 : decode mX6_book.2.1 32 = .ok (.ireturn, 1) := by decide +kernel
theorem eX6_book_33 : decode mX6_book.2.1 33 = .ok (.aload_n 0, 1) := by decide +kernel
theorem eX6_book_34 : decode mX6_book.2.1 34 = .ok (.getfield 41, 3) := by decide +kernel
theorem eX6_book_37 : decode mX6_book.2.1 37 = .ok (.iload_n 1, 1) := by decide +kernel
theorem eX6_book_38 : decode mX6_book.2.1 38 = .ok (.iload_n 2, 1) := by decide +kernel
theorem eX6_book_39 : decode mX6_book.2.1 39 = .ok (.iconst 0, 1) := by decide +kernel
theorem eX6_book_40 : decode mX6_book.2.1 40 = .ok (.invokevirtual 189, 3) := by decide +kernel
theorem eX6_book_43 : decode mX6_book.2.1 43 = .ok (.ireturn, 1) := by decide +kernel
theorem c_X6_book (hO : OA h 16 (.inr (6, afs bi se))) (hN : WF F h 17 g (nI 9999)) (hm : g 60 = nI m) (hm6 : m ≤ 6) (hS : RAt h 51 8 a f) (ha : a ≤ 8) (tl p : Int32) (hd : 2 ≤ d) : Ct l G mX6_book yX6_book d 0 0 [.ref 16, .int tl, .int p] h (fun r h' => r = some (.int (cBook m a f tl p).1) ∧ RAt h' 51 8 (cBook m a f tl p).2.1 (cBook m a f tl p).2.2 ∧ Same 51 2 h h') := by
  refine ct_of (lv := [some (.ref 16), some (.int tl), some (.int p)]) (by decide +kernel) rfl (fun z => by cases z) (fun _ => rfl) (fun _ => Nat.le_of_ble_eq_true rfl) ?_
  refine aw_iload_n (pc' := 1) eX6_book_0 rfl rfl ?_
  refine aw_iconst (pc' := 2) (v := -1) eX6_book_1 rfl (by decide) ?_
  refine aw_icmp_ne (pc' := 5) (tgt := 13) eX6_book_2 rfl (by decide) (fun c_2 => ?_) (fun c_2 => ?_)
  · refine aw_aload_n (pc' := 14) eX6_book_13 rfl rfl trivial ?_
    refine aw_Oget (pc' := 17) (ci := 6) (kf := 0) (N := 14) (.ref 17) hO eX6_book_14 rfl rfl rfl inX6 (by decide) q250 rfl ?_
    refine aw_iload_n (pc' := 18) eX6_book_17 rfl rfl ?_
    refine aw_callv (pc' := 21) (nn := 1) (c_X5_has (d := d - 1) hN hm hm6 _ (by omega)) eX6_book_18 rfl ⟨q305, q308, q56⟩ q306 q307 ⟨rfl, by decide +kernel, by decide +kernel, by decide +kernel⟩ rfl hN.ob rfl ⟨by omega, by decide⟩ ⟨by omega, by omega⟩ rfl (Nat.le_of_ble_eq_true rfl) (fun v1 h2 hq3 => ?_)
    obtain ⟨rfl, rfl⟩ := hq3
    dsimp only [Option.toList, List.cons_append, List.nil_append]
    refine aw_if_eq (pc' := 24) (tgt := 31) eX6_book_21 rfl (by decide) (fun c_21 => ?_) (fun c_21 => ?_)
    · refine aw_iconst (pc' := 32) (v := -1) eX6_book_31 rfl (by decide) ?_
      refine aw_ret (v := some (.int _)) eX6_book_32 ⟨rfl, rfl⟩ (by omega) (by omega) rfl ?_
      rw [cBook, if_neg c_2, if_neg (fun z => by rw [(zb_eq0.mp c_21)] at z; exact absurd z.1 (by decide))]
      exact ⟨rfl, hS, Same.rf⟩
    · refine aw_iload_n (pc' := 25) eX6_book_24 rfl rfl ?_
      refine aw_calls (pc' := 28) (nn := 1) (c_X6_isPlace (d := d - 1) _ (by omega)) eX6_book_25 rfl ⟨q393, q395, q55⟩ q394 ⟨by decide +kernel, by decide +kernel, by decide +kernel⟩ rfl ⟨by omega, by decide⟩ ⟨by omega, by omega⟩ rfl (Nat.le_of_ble_eq_true rfl) (fun v4 h5 hq6 => ?_)
      obtain ⟨rfl, rfl⟩ := hq6
      dsimp only [Option.toList, List.cons_append, List.nil_append]
      refine aw_if_ne (pc' := 31) (tgt := 33) eX6_book_28 rfl (by decide) (fun c_28 => ?_) (fun c_28 => ?_)
      · by_cases cf : a = 8
        · subst cf
          refine aw_aload_n (pc' := 34) eX6_book_33 rfl rfl trivial ?_
          refine aw_Oget (pc' := 37) (ci := 6) (kf := 6) (N := 14) (.ref 51) hO eX6_book_34 rfl rfl rfl inX6 (by decide) q256 rfl ?_
          refine aw_iload_n (pc' := 38) eX6_book_37 rfl rfl ?_
          refine aw_iload_n (pc' := 39) eX6_book_38 rfl rfl ?_
          refine aw_iconst (pc' := 40) (v := 0) eX6_book_39 rfl (by decide) ?_
          refine aw_callv (pc' := 43) (nn := 3) (f_X1_takes (d := d - 1) hS (by omega) _ _ _ (by omega)) eX6_book_40 rfl ⟨q629, q632, q58⟩ q630 q631 ⟨rfl, by decide +kernel, by decide +kernel, by decide +kernel⟩ rfl hS.ob rfl ⟨by omega, by decide⟩ ⟨by omega, by omega⟩ rfl (Nat.le_of_ble_eq_true rfl) (fun v9 h10 hq11 => ?_)
          obtain ⟨rfl, rfl⟩ := hq11
          dsimp only [Option.toList, List.cons_append, List.nil_append]
          refine aw_ret (v := some (.int _)) eX6_book_43 ⟨rfl, rfl⟩ (by omega) (by omega) rfl ?_
          rw [cBook, if_neg c_2, if_pos ⟨zb_ne0.mp c_21, zb_ne0.mp c_28⟩, if_pos rfl]
          exact ⟨rfl, hS, Same.rf⟩
        · refine aw_aload_n (pc' := 34) eX6_book_33 rfl rfl trivial ?_
          refine aw_Oget (pc' := 37) (ci := 6) (kf := 6) (N := 14) (.ref 51) hO eX6_book_34 rfl rfl rfl inX6 (by decide) q256 rfl ?_
          refine aw_iload_n (pc' := 38) eX6_book_37 rfl rfl ?_
          refine aw_iload_n (pc' := 39) eX6_book_38 rfl rfl ?_
          refine aw_iconst (pc' := 40) (v := 0) eX6_book_39 rfl (by decide) ?_
          refine aw_callv (pc' := 43) (nn := 3) (c_X1_takes (d := d - 1) hS (by omega) (by omega) _ _ _ (by omega)) eX6_book_40 rfl ⟨q629, q632, q58⟩ q630 q631 ⟨rfl, by decide +kernel, by decide +kernel, by decide +kernel⟩ rfl hS.ob rfl ⟨by omega, by decide⟩ ⟨by omega, by omega⟩ rfl (Nat.le_of_ble_eq_true rfl) (fun v14 h15 hq16 => ?_)
          obtain ⟨rfl, hS12, hs13⟩ := hq16
          have hF17 := hO.fr hs13 (by omega)
          have hF18 := hN.fr hs13 (by omega)
          dsimp only [Option.toList, List.cons_append, List.nil_append]
          refine aw_ret (v := some (.int _)) eX6_book_43 ⟨rfl, rfl⟩ (by omega) (by omega) rfl ?_
          rw [cBook, if_neg c_2, if_pos ⟨zb_ne0.mp c_21, zb_ne0.mp c_28⟩, if_neg cf]
          exact ⟨rfl, hS12, hs13⟩
      · refine aw_iconst (pc' := 32) (v := -1) eX6_book_31 rfl (by decide) ?_
        refine aw_ret (v := some (.int _)) eX6_book_32 ⟨rfl, rfl⟩ (by omega) (by omega) rfl ?_
        rw [cBook, if_neg c_2, if_neg (fun z => by rw [(zb_eq0.mp c_28)] at z; exact absurd z.2 (by decide))]
        exact ⟨rfl, hS, Same.rf⟩
  · refine aw_aload_n (pc' := 6) eX6_book_5 rfl rfl trivial ?_
    refine aw_Oget (pc' := 9) (ci := 6) (kf := 6) (N := 14) (.ref 51) hO eX6_book_6 rfl rfl rfl inX6 (by decide) q256 rfl ?_
    refine aw_callv (pc' := 12) (nn := 0) (c_X1_emptied (d := d - 1) hS (by omega)) eX6_book_9 rfl ⟨q625, q628, q58⟩ q626 q627 ⟨rfl, by decide +kernel, by decide +kernel, by decide +kernel⟩ rfl hS.ob rfl ⟨by omega, by decide⟩ ⟨by omega, by omega⟩ rfl (Nat.le_of_ble_eq_true rfl) (fun v21 h22 hq23 => ?_)
    obtain ⟨rfl, hS19, hs20⟩ := hq23
    have hF24 := hO.fr hs20 (by omega)
    have hF25 := hN.fr hs20 (by omega)
    dsimp only [Option.toList, List.cons_append, List.nil_append]
    refine aw_ret (v := some (.int _)) eX6_book_12 ⟨rfl, rfl⟩ (by omega) (by omega) rfl ?_
    rw [cBook, if_pos c_2]
    exact ⟨rfl, hS19, hs20⟩
abbrev mX6_plan : MT := (RX6, cX6_plan, 4, (some .int), false)
theorem eX6_plan_0 : decode mX6_plan.2.1 0 = .ok (.iload_n 1, 1) := by decide +kernel
theorem eX6_plan_1 : decode mX6_plan.2.1 1 = .ok (.iconst (-1), 1) := by decide +kernel
theorem eX6_plan_2 : decode mX6_plan.2.1 2 = .ok (.if_icmp .ne 11, 3) := by decide +kernel
theorem eX6_plan_5 : decode mX6_plan.2.1 5 = .ok (.aload_n 0, 1) := by decide +kernel
theorem eX6_plan_6 : decode mX6_plan.2.1 6 = .ok (.getfield 38, 3) := by decide +kernel
theorem eX6_plan_9 : decode mX6_plan.2.1 9 = .ok (.invokevirtual 186, 3) := by decide +kernel
theorem eX6_plan_12 : decode mX6_plan.2.1 12 = .ok (.ireturn, 1) := by decide +kernel
theorem eX6_plan_13 : decode mX6_plan.2.1 13 = .ok (.iload_n 1, 1) := by decide +kernel
theorem eX6_plan_14 : decode mX6_plan.2.1 14 = .ok (.ifCond .lt 8, 3) := by decide +kernel
theorem eX6_plan_17 : decode mX6_plan.2.1 17 = .ok (.iload_n 1, 1) := by decide +kernel
theorem eX6_plan_18 : decode mX6_plan.2.1 18 = .ok (.iconst 3, 1) := by decide +kernel
theorem eX6_plan_19 : decode mX6_plan.2.1 19 = .ok (.if_icmp .le 5, 3) := by decide +kernel
theorem eX6_plan_22 : decode mX6_plan.2.1 22 = .ok (.iconst (-1), 1) := by decide +kernel
theorem eX6_plan_23 : decode mX6_plan.2.1 23 = .ok (.ireturn, 1) := by decide +kernel
theorem eX6_plan_24 : decode mX6_plan.2.1 24 = .ok (.iload_n 1, 1) := by decide +kernel
theorem eX6_plan_25 : decode mX6_plan.2.1 25 = .ok (.iconst 1, 1) := by decide +kernel
theorem eX6_plan_26 : decode mX6_plan.2.1 26 = .ok (.if_icmp .eq 8, 3) := by decide +kernel
theorem eX6_plan_29 : decode mX6_plan.2.1 29 = .ok (.iload_n 1, 1) := by decide +kernel
theorem eX6_plan_30 : decode mX6_plan.2.1 30 = .ok (.iconst 2, 1) := by decide +kernel
theorem eX6_plan_31 : decode mX6_plan.2.1 31 = .ok (.if_icmp .ne 7, 3) := by decide +kernel
theorem eX6_plan_34 : decode mX6_plan.2.1 34 = .ok (.iconst 1, 1) := by decide +kernel
theorem eX6_plan_35 : decode mX6_plan.2.1 35 = .ok (.goto 4, 3) := by decide +kernel
theorem eX6_plan_38 : decode mX6_plan.2.1 38 = .ok (.iconst 0, 1) := by decide +kernel
theorem eX6_plan_39 : decode mX6_plan.2.1 39 = .ok (.istore_n 3, 1) := by decide +kernel
theorem eX6_plan_40 : decode mX6_plan.2.1 40 = .ok (.iload_n 3, 1) := by decide +kernel
theorem eX6_plan_41 : decode mX6_plan.2.1 41 = .ok (.ifCond .eq 14, 3) := by decide +kernel
theorem eX6_plan_44 : decode mX6_plan.2.1 44 = .ok (.aload_n 0, 1) := by decide +kernel
theorem eX6_plan_45 : decode mX6_plan.2.1 45 = .ok (.getfield 16, 3) := by decide +kernel
theorem eX6_plan_48 : decode mX6_plan.2.1 48 = .ok (.iload_n 2, 1) := by decide +kernel
theorem eX6_plan_49 : decode mX6_plan.2.1 49 = .ok (.invokevirtual 85, 3) := by decide +kernel
theorem eX6_plan_52 : decode mX6_plan.2.1 52 = .ok (.ifCond .eq 15, 3) := by decide +kernel
theorem eX6_plan_55 : decode mX6_plan.2.1 55 = .ok (.iload_n 1, 1) := by decide +kernel
theorem eX6_plan_56 : decode mX6_plan.2.1 56 = .ok (.iconst 3, 1) := by decide +kernel
theorem eX6_plan_57 : decode mX6_plan.2.1 57 = .ok (.if_icmp .ne 12, 3) := by decide +kernel
theorem eX6_plan_60 : decode mX6_plan.2.1 60 = .ok (.iload_n 2, 1) := by decide +kernel
theorem eX6_plan_61 : decode mX6_plan.2.1 61 = .ok (.invokestatic 138, 3) := by decide +kernel
theorem eX6_plan_64 : decode mX6_plan.2.1 64 = .ok (.ifCond .ne 5, 3) := by decide +kernel
theorem eX6_plan_67 : decode mX6_plan.2.1 67 = .ok (.iconst (-1), 1) := by decide +kernel
theorem eX6_plan_68 : decode mX6_plan.2.1 68 = .ok (.ireturn, 1) := by decide +kernel
theorem eX6_plan_69 : decode mX6_plan.2.1 69 = .ok (.aload_n 0, 1) := by decide +kernel
theorem eX6_plan_70 : decode mX6_plan.2.1 70 = .ok (.getfield 38, 3) := by decide +kernel
theorem eX6_plan_73 : decode mX6_plan.2.1 73 = .ok (.iload_n 1, 1) := by decide +kernel
theorem eX6_plan_74 : decode mX6_plan.2.1 74 = .ok (.iload_n 2, 1) := by decide +kernel
theorem eX6_plan_75 : decode mX6_plan.2.1 75 = .ok (.iconst 0, 1) := by decide +kernel
theorem eX6_plan_76 : decode mX6_plan.2.1 76 = .ok (.invokevirtual 189, 3) := by decide +kernel
theorem eX6_plan_79 : decode mX6_plan.2.1 79 = .ok (.ireturn, 1) := by decide +kernel
theorem c_X6_plan (hO : OA h 16 (.inr (6, afs bi se))) (hN : WF F h 17 g (nI 9999)) (hm : g 60 = nI m) (hm6 : m ≤ 6) (hS : RAt h 49 10 a f) (ha : a ≤ 10) (tl p : Int32) (hd : 2 ≤ d) : Ct l G mX6_plan yX6_plan d 0 0 [.ref 16, .int tl, .int p] h (fun r h' => r = some (.int (cPlan m a f tl p).1) ∧ RAt h' 49 10 (cPlan m a f tl p).2.1 (cPlan m a f tl p).2.2 ∧ Same 49 2 h h') := by
  refine ct_of (lv := [some (.ref 16), some (.int tl), some (.int p), none]) (by decide +kernel) rfl (fun z => by cases z) (fun _ => rfl) (fun _ => Nat.le_of_ble_eq_true rfl) ?_
  refine aw_iload_n (pc' := 1) eX6_plan_0 rfl rfl ?_
  refine aw_iconst (pc' := 2) (v := -1) eX6_plan_1 rfl (by decide) ?_
  refine aw_icmp_ne (pc' := 5) (tgt := 13) eX6_plan_2 rfl (by decide) (fun c_2 => ?_) (fun c_2 => ?_)
  · refine aw_iload_n (pc' := 14) eX6_plan_13 rfl rfl ?_
    refine aw_if_lt (pc' := 17) (tgt := 22) eX6_plan_14 rfl (by decide) (fun c_14 => ?_) (fun c_14 => ?_)
    · refine aw_iconst (pc' := 23) (v := -1) eX6_plan_22 rfl (by decide) ?_
      refine aw_ret (v := some (.int _)) eX6_plan_23 ⟨rfl, rfl⟩ (by omega) (by omega) rfl ?_
      have hok : sPlanOk m tl p = false := pl_no (bI_f1 c_14)
      rw [cPlan, if_neg c_2, if_neg (by rw [hok]; decide)]
      exact ⟨rfl, hS, Same.rf⟩
    · refine aw_iload_n (pc' := 18) eX6_plan_17 rfl rfl ?_
      refine aw_iconst (pc' := 19) (v := 3) eX6_plan_18 rfl (by decide) ?_
      refine aw_icmp_le (pc' := 22) (tgt := 24) eX6_plan_19 rfl (by decide) (fun c_19 => ?_) (fun c_19 => ?_)
      · refine aw_iload_n (pc' := 25) eX6_plan_24 rfl rfl ?_
        refine aw_iconst (pc' := 26) (v := 1) eX6_plan_25 rfl (by decide) ?_
        refine aw_icmp_eq (pc' := 29) (tgt := 34) eX6_plan_26 rfl (by decide) (fun c_26 => ?_) (fun c_26 => ?_)
        · refine aw_iconst (pc' := 35) (v := 1) eX6_plan_34 rfl (by decide) ?_
          refine aw_goto eX6_plan_35 (by decide) (tgt := 39) ?_
          refine aw_istore_n (pc' := 40) eX6_plan_39 rfl (by decide) ?_
          dsimp only [zst, zst2, zcut]
          refine aw_iload_n (pc' := 41) eX6_plan_40 rfl rfl ?_
          refine aw_if_eq (pc' := 44) (tgt := 55) eX6_plan_41 rfl (by decide) (fun c_41 => ?_) (fun c_41 => ?_)
          · exact absurd c_41 (by decide)
          · refine aw_aload_n (pc' := 45) eX6_plan_44 rfl rfl trivial ?_
            refine aw_Oget (pc' := 48) (ci := 6) (kf := 0) (N := 14) (.ref 17) hO eX6_plan_45 rfl rfl rfl inX6 (by decide) q250 rfl ?_
            refine aw_iload_n (pc' := 49) eX6_plan_48 rfl rfl ?_
            refine aw_callv (pc' := 52) (nn := 1) (c_X5_has (d := d - 1) hN hm hm6 _ (by omega)) eX6_plan_49 rfl ⟨q305, q308, q56⟩ q306 q307 ⟨rfl, by decide +kernel, by decide +kernel, by decide +kernel⟩ rfl hN.ob rfl ⟨by omega, by decide⟩ ⟨by omega, by omega⟩ rfl (Nat.le_of_ble_eq_true rfl) (fun v1 h2 hq3 => ?_)
            obtain ⟨rfl, rfl⟩ := hq3
            dsimp only [Option.toList, List.cons_append, List.nil_append]
            refine aw_if_eq (pc' := 55) (tgt := 67) eX6_plan_52 rfl (by decide) (fun c_52 => ?_) (fun c_52 => ?_)
            · refine aw_iconst (pc' := 68) (v := -1) eX6_plan_67 rfl (by decide) ?_
              refine aw_ret (v := some (.int _)) eX6_plan_68 ⟨rfl, rfl⟩ (by omega) (by omega) rfl ?_
              have hok : sPlanOk m tl p = false := (by rw [sPlanOk, c_26, zb_eq0.mp c_52]; rfl)
              rw [cPlan, if_neg c_2, if_neg (by rw [hok]; decide)]
              exact ⟨rfl, hS, Same.rf⟩
            · refine aw_iload_n (pc' := 56) eX6_plan_55 rfl rfl ?_
              refine aw_iconst (pc' := 57) (v := 3) eX6_plan_56 rfl (by decide) ?_
              refine aw_icmp_ne (pc' := 60) (tgt := 69) eX6_plan_57 rfl (by decide) (fun c_57 => ?_) (fun c_57 => ?_)
              · by_cases cf : a = 10
                · subst cf
                  refine aw_aload_n (pc' := 70) eX6_plan_69 rfl rfl trivial ?_
                  refine aw_Oget (pc' := 73) (ci := 6) (kf := 5) (N := 14) (.ref 49) hO eX6_plan_70 rfl rfl rfl inX6 (by decide) q255 rfl ?_
                  refine aw_iload_n (pc' := 74) eX6_plan_73 rfl rfl ?_
                  refine aw_iload_n (pc' := 75) eX6_plan_74 rfl rfl ?_
                  refine aw_iconst (pc' := 76) (v := 0) eX6_plan_75 rfl (by decide) ?_
                  refine aw_callv (pc' := 79) (nn := 3) (f_X1_takes (d := d - 1) hS (by omega) _ _ _ (by omega)) eX6_plan_76 rfl ⟨q629, q632, q58⟩ q630 q631 ⟨rfl, by decide +kernel, by decide +kernel, by decide +kernel⟩ rfl hS.ob rfl ⟨by omega, by decide⟩ ⟨by omega, by omega⟩ rfl (Nat.le_of_ble_eq_true rfl) (fun v6 h7 hq8 => ?_)
                  obtain ⟨rfl, rfl⟩ := hq8
                  dsimp only [Option.toList, List.cons_append, List.nil_append]
                  refine aw_ret (v := some (.int _)) eX6_plan_79 ⟨rfl, rfl⟩ (by omega) (by omega) rfl ?_
                  have hok : sPlanOk m tl p = true := (by rw [sPlanOk, c_26, zb_ne0.mp c_52]; rfl)
                  rw [cPlan, if_neg c_2, if_pos hok, if_pos rfl]
                  exact ⟨rfl, hS, Same.rf⟩
                · refine aw_aload_n (pc' := 70) eX6_plan_69 rfl rfl trivial ?_
                  refine aw_Oget (pc' := 73) (ci := 6) (kf := 5) (N := 14) (.ref 49) hO eX6_plan_70 rfl rfl rfl inX6 (by decide) q255 rfl ?_
                  refine aw_iload_n (pc' := 74) eX6_plan_73 rfl rfl ?_
                  refine aw_iload_n (pc' := 75) eX6_plan_74 rfl rfl ?_
                  refine aw_iconst (pc' := 76) (v := 0) eX6_plan_75 rfl (by decide) ?_
                  refine aw_callv (pc' := 79) (nn := 3) (c_X1_takes (d := d - 1) hS (by omega) (by omega) _ _ _ (by omega)) eX6_plan_76 rfl ⟨q629, q632, q58⟩ q630 q631 ⟨rfl, by decide +kernel, by decide +kernel, by decide +kernel⟩ rfl hS.ob rfl ⟨by omega, by decide⟩ ⟨by omega, by omega⟩ rfl (Nat.le_of_ble_eq_true rfl) (fun v11 h12 hq13 => ?_)
                  obtain ⟨rfl, hS9, hs10⟩ := hq13
                  have hF14 := hO.fr hs10 (by omega)
                  have hF15 := hN.fr hs10 (by omega)
                  dsimp only [Option.toList, List.cons_append, List.nil_append]
                  refine aw_ret (v := some (.int _)) eX6_plan_79 ⟨rfl, rfl⟩ (by omega) (by omega) rfl ?_
                  have hok : sPlanOk m tl p = true := (by rw [sPlanOk, c_26, zb_ne0.mp c_52]; rfl)
                  rw [cPlan, if_neg c_2, if_pos hok, if_neg cf]
                  exact ⟨rfl, hS9, hs10⟩
              · exact absurd (c_26.symm.trans c_57) (by decide)
        · refine aw_iload_n (pc' := 30) eX6_plan_29 rfl rfl ?_
          refine aw_iconst (pc' := 31) (v := 2) eX6_plan_30 rfl (by decide) ?_
          refine aw_icmp_ne (pc' := 34) (tgt := 38) eX6_plan_31 rfl (by decide) (fun c_31 => ?_) (fun c_31 => ?_)
          · refine aw_iconst (pc' := 39) (v := 0) eX6_plan_38 rfl (by decide) ?_
            refine aw_istore_n (pc' := 40) eX6_plan_39 rfl (by decide) ?_
            dsimp only [zst, zst2, zcut]
            refine aw_iload_n (pc' := 41) eX6_plan_40 rfl rfl ?_
            refine aw_if_eq (pc' := 44) (tgt := 55) eX6_plan_41 rfl (by decide) (fun c_41 => ?_) (fun c_41 => ?_)
            · refine aw_iload_n (pc' := 56) eX6_plan_55 rfl rfl ?_
              refine aw_iconst (pc' := 57) (v := 3) eX6_plan_56 rfl (by decide) ?_
              refine aw_icmp_ne (pc' := 60) (tgt := 69) eX6_plan_57 rfl (by decide) (fun c_57 => ?_) (fun c_57 => ?_)
              · by_cases cf : a = 10
                · subst cf
                  refine aw_aload_n (pc' := 70) eX6_plan_69 rfl rfl trivial ?_
                  refine aw_Oget (pc' := 73) (ci := 6) (kf := 5) (N := 14) (.ref 49) hO eX6_plan_70 rfl rfl rfl inX6 (by decide) q255 rfl ?_
                  refine aw_iload_n (pc' := 74) eX6_plan_73 rfl rfl ?_
                  refine aw_iload_n (pc' := 75) eX6_plan_74 rfl rfl ?_
                  refine aw_iconst (pc' := 76) (v := 0) eX6_plan_75 rfl (by decide) ?_
                  refine aw_callv (pc' := 79) (nn := 3) (f_X1_takes (d := d - 1) hS (by omega) _ _ _ (by omega)) eX6_plan_76 rfl ⟨q629, q632, q58⟩ q630 q631 ⟨rfl, by decide +kernel, by decide +kernel, by decide +kernel⟩ rfl hS.ob rfl ⟨by omega, by decide⟩ ⟨by omega, by omega⟩ rfl (Nat.le_of_ble_eq_true rfl) (fun v18 h19 hq20 => ?_)
                  obtain ⟨rfl, rfl⟩ := hq20
                  dsimp only [Option.toList, List.cons_append, List.nil_append]
                  refine aw_ret (v := some (.int _)) eX6_plan_79 ⟨rfl, rfl⟩ (by omega) (by omega) rfl ?_
                  have hok : sPlanOk m tl p = true := (by rw [sPlanOk, in03 (bI_tle c_14 c_19) c_26 c_31 c_57]; rfl)
                  rw [cPlan, if_neg c_2, if_pos hok, if_pos rfl]
                  exact ⟨rfl, hS, Same.rf⟩
                · refine aw_aload_n (pc' := 70) eX6_plan_69 rfl rfl trivial ?_
                  refine aw_Oget (pc' := 73) (ci := 6) (kf := 5) (N := 14) (.ref 49) hO eX6_plan_70 rfl rfl rfl inX6 (by decide) q255 rfl ?_
                  refine aw_iload_n (pc' := 74) eX6_plan_73 rfl rfl ?_
                  refine aw_iload_n (pc' := 75) eX6_plan_74 rfl rfl ?_
                  refine aw_iconst (pc' := 76) (v := 0) eX6_plan_75 rfl (by decide) ?_
                  refine aw_callv (pc' := 79) (nn := 3) (c_X1_takes (d := d - 1) hS (by omega) (by omega) _ _ _ (by omega)) eX6_plan_76 rfl ⟨q629, q632, q58⟩ q630 q631 ⟨rfl, by decide +kernel, by decide +kernel, by decide +kernel⟩ rfl hS.ob rfl ⟨by omega, by decide⟩ ⟨by omega, by omega⟩ rfl (Nat.le_of_ble_eq_true rfl) (fun v23 h24 hq25 => ?_)
                  obtain ⟨rfl, hS21, hs22⟩ := hq25
                  have hF26 := hO.fr hs22 (by omega)
                  have hF27 := hN.fr hs22 (by omega)
                  dsimp only [Option.toList, List.cons_append, List.nil_append]
                  refine aw_ret (v := some (.int _)) eX6_plan_79 ⟨rfl, rfl⟩ (by omega) (by omega) rfl ?_
                  have hok : sPlanOk m tl p = true := (by rw [sPlanOk, in03 (bI_tle c_14 c_19) c_26 c_31 c_57]; rfl)
                  rw [cPlan, if_neg c_2, if_pos hok, if_neg cf]
                  exact ⟨rfl, hS21, hs22⟩
              · refine aw_iload_n (pc' := 61) eX6_plan_60 rfl rfl ?_
                refine aw_calls (pc' := 64) (nn := 1) (c_X6_isPlace (d := d - 1) _ (by omega)) eX6_plan_61 rfl ⟨q393, q395, q55⟩ q394 ⟨by decide +kernel, by decide +kernel, by decide +kernel⟩ rfl ⟨by omega, by decide⟩ ⟨by omega, by omega⟩ rfl (Nat.le_of_ble_eq_true rfl) (fun v28 h29 hq30 => ?_)
                obtain ⟨rfl, rfl⟩ := hq30
                dsimp only [Option.toList, List.cons_append, List.nil_append]
                refine aw_if_ne (pc' := 67) (tgt := 69) eX6_plan_64 rfl (by decide) (fun c_64 => ?_) (fun c_64 => ?_)
                · by_cases cf : a = 10
                  · subst cf
                    refine aw_aload_n (pc' := 70) eX6_plan_69 rfl rfl trivial ?_
                    refine aw_Oget (pc' := 73) (ci := 6) (kf := 5) (N := 14) (.ref 49) hO eX6_plan_70 rfl rfl rfl inX6 (by decide) q255 rfl ?_
                    refine aw_iload_n (pc' := 74) eX6_plan_73 rfl rfl ?_
                    refine aw_iload_n (pc' := 75) eX6_plan_74 rfl rfl ?_
                    refine aw_iconst (pc' := 76) (v := 0) eX6_plan_75 rfl (by decide) ?_
                    refine aw_callv (pc' := 79) (nn := 3) (f_X1_takes (d := d - 1) hS (by omega) _ _ _ (by omega)) eX6_plan_76 rfl ⟨q629, q632, q58⟩ q630 q631 ⟨rfl, by decide +kernel, by decide +kernel, by decide +kernel⟩ rfl hS.ob rfl ⟨by omega, by decide⟩ ⟨by omega, by omega⟩ rfl (Nat.le_of_ble_eq_true rfl) (fun v33 h34 hq35 => ?_)
                    obtain ⟨rfl, rfl⟩ := hq35
                    dsimp only [Option.toList, List.cons_append, List.nil_append]
                    refine aw_ret (v := some (.int _)) eX6_plan_79 ⟨rfl, rfl⟩ (by omega) (by omega) rfl ?_
                    have hok : sPlanOk m tl p = true := (by rw [sPlanOk, c_57, zb_ne0.mp c_64]; rfl)
                    rw [cPlan, if_neg c_2, if_pos hok, if_pos rfl]
                    exact ⟨rfl, hS, Same.rf⟩
                  · refine aw_aload_n (pc' := 70) eX6_plan_69 rfl rfl trivial ?_
                    refine aw_Oget (pc' := 73) (ci := 6) (kf := 5) (N := 14) (.ref 49) hO eX6_plan_70 rfl rfl rfl inX6 (by decide) q255 rfl ?_
                    refine aw_iload_n (pc' := 74) eX6_plan_73 rfl rfl ?_
                    refine aw_iload_n (pc' := 75) eX6_plan_74 rfl rfl ?_
                    refine aw_iconst (pc' := 76) (v := 0) eX6_plan_75 rfl (by decide) ?_
                    refine aw_callv (pc' := 79) (nn := 3) (c_X1_takes (d := d - 1) hS (by omega) (by omega) _ _ _ (by omega)) eX6_plan_76 rfl ⟨q629, q632, q58⟩ q630 q631 ⟨rfl, by decide +kernel, by decide +kernel, by decide +kernel⟩ rfl hS.ob rfl ⟨by omega, by decide⟩ ⟨by omega, by omega⟩ rfl (Nat.le_of_ble_eq_true rfl) (fun v38 h39 hq40 => ?_)
                    obtain ⟨rfl, hS36, hs37⟩ := hq40
                    have hF41 := hO.fr hs37 (by omega)
                    have hF42 := hN.fr hs37 (by omega)
                    dsimp only [Option.toList, List.cons_append, List.nil_append]
                    refine aw_ret (v := some (.int _)) eX6_plan_79 ⟨rfl, rfl⟩ (by omega) (by omega) rfl ?_
                    have hok : sPlanOk m tl p = true := (by rw [sPlanOk, c_57, zb_ne0.mp c_64]; rfl)
                    rw [cPlan, if_neg c_2, if_pos hok, if_neg cf]
                    exact ⟨rfl, hS36, hs37⟩
                · refine aw_iconst (pc' := 68) (v := -1) eX6_plan_67 rfl (by decide) ?_
                  refine aw_ret (v := some (.int _)) eX6_plan_68 ⟨rfl, rfl⟩ (by omega) (by omega) rfl ?_
                  have hok : sPlanOk m tl p = false := (by rw [sPlanOk, c_57, zb_eq0.mp c_64]; rfl)
                  rw [cPlan, if_neg c_2, if_neg (by rw [hok]; decide)]
                  exact ⟨rfl, hS, Same.rf⟩
            · exact absurd c_41 (by decide)
          · refine aw_iconst (pc' := 35) (v := 1) eX6_plan_34 rfl (by decide) ?_
            refine aw_goto eX6_plan_35 (by decide) (tgt := 39) ?_
            refine aw_istore_n (pc' := 40) eX6_plan_39 rfl (by decide) ?_
            dsimp only [zst, zst2, zcut]
            refine aw_iload_n (pc' := 41) eX6_plan_40 rfl rfl ?_
            refine aw_if_eq (pc' := 44) (tgt := 55) eX6_plan_41 rfl (by decide) (fun c_41 => ?_) (fun c_41 => ?_)
            · exact absurd c_41 (by decide)
            · refine aw_aload_n (pc' := 45) eX6_plan_44 rfl rfl trivial ?_
              refine aw_Oget (pc' := 48) (ci := 6) (kf := 0) (N := 14) (.ref 17) hO eX6_plan_45 rfl rfl rfl inX6 (by decide) q250 rfl ?_
              refine aw_iload_n (pc' := 49) eX6_plan_48 rfl rfl ?_
              refine aw_callv (pc' := 52) (nn := 1) (c_X5_has (d := d - 1) hN hm hm6 _ (by omega)) eX6_plan_49 rfl ⟨q305, q308, q56⟩ q306 q307 ⟨rfl, by decide +kernel, by decide +kernel, by decide +kernel⟩ rfl hN.ob rfl ⟨by omega, by decide⟩ ⟨by omega, by omega⟩ rfl (Nat.le_of_ble_eq_true rfl) (fun v43 h44 hq45 => ?_)
              obtain ⟨rfl, rfl⟩ := hq45
              dsimp only [Option.toList, List.cons_append, List.nil_append]
              refine aw_if_eq (pc' := 55) (tgt := 67) eX6_plan_52 rfl (by decide) (fun c_52 => ?_) (fun c_52 => ?_)
              · refine aw_iconst (pc' := 68) (v := -1) eX6_plan_67 rfl (by decide) ?_
                refine aw_ret (v := some (.int _)) eX6_plan_68 ⟨rfl, rfl⟩ (by omega) (by omega) rfl ?_
                have hok : sPlanOk m tl p = false := (by rw [sPlanOk, c_31, zb_eq0.mp c_52]; rfl)
                rw [cPlan, if_neg c_2, if_neg (by rw [hok]; decide)]
                exact ⟨rfl, hS, Same.rf⟩
              · refine aw_iload_n (pc' := 56) eX6_plan_55 rfl rfl ?_
                refine aw_iconst (pc' := 57) (v := 3) eX6_plan_56 rfl (by decide) ?_
                refine aw_icmp_ne (pc' := 60) (tgt := 69) eX6_plan_57 rfl (by decide) (fun c_57 => ?_) (fun c_57 => ?_)
                · by_cases cf : a = 10
                  · subst cf
                    refine aw_aload_n (pc' := 70) eX6_plan_69 rfl rfl trivial ?_
                    refine aw_Oget (pc' := 73) (ci := 6) (kf := 5) (N := 14) (.ref 49) hO eX6_plan_70 rfl rfl rfl inX6 (by decide) q255 rfl ?_
                    refine aw_iload_n (pc' := 74) eX6_plan_73 rfl rfl ?_
                    refine aw_iload_n (pc' := 75) eX6_plan_74 rfl rfl ?_
                    refine aw_iconst (pc' := 76) (v := 0) eX6_plan_75 rfl (by decide) ?_
                    refine aw_callv (pc' := 79) (nn := 3) (f_X1_takes (d := d - 1) hS (by omega) _ _ _ (by omega)) eX6_plan_76 rfl ⟨q629, q632, q58⟩ q630 q631 ⟨rfl, by decide +kernel, by decide +kernel, by decide +kernel⟩ rfl hS.ob rfl ⟨by omega, by decide⟩ ⟨by omega, by omega⟩ rfl (Nat.le_of_ble_eq_true rfl) (fun v48 h49 hq50 => ?_)
                    obtain ⟨rfl, rfl⟩ := hq50
                    dsimp only [Option.toList, List.cons_append, List.nil_append]
                    refine aw_ret (v := some (.int _)) eX6_plan_79 ⟨rfl, rfl⟩ (by omega) (by omega) rfl ?_
                    have hok : sPlanOk m tl p = true := (by rw [sPlanOk, c_31, zb_ne0.mp c_52]; rfl)
                    rw [cPlan, if_neg c_2, if_pos hok, if_pos rfl]
                    exact ⟨rfl, hS, Same.rf⟩
                  · refine aw_aload_n (pc' := 70) eX6_plan_69 rfl rfl trivial ?_
                    refine aw_Oget (pc' := 73) (ci := 6) (kf := 5) (N := 14) (.ref 49) hO eX6_plan_70 rfl rfl rfl inX6 (by decide) q255 rfl ?_
                    refine aw_iload_n (pc' := 74) eX6_plan_73 rfl rfl ?_
                    refine aw_iload_n (pc' := 75) eX6_plan_74 rfl rfl ?_
                    refine aw_iconst (pc' := 76) (v := 0) eX6_plan_75 rfl (by decide) ?_
                    refine aw_callv (pc' := 79) (nn := 3) (c_X1_takes (d := d - 1) hS (by omega) (by omega) _ _ _ (by omega)) eX6_plan_76 rfl ⟨q629, q632, q58⟩ q630 q631 ⟨rfl, by decide +kernel, by decide +kernel, by decide +kernel⟩ rfl hS.ob rfl ⟨by omega, by decide⟩ ⟨by omega, by omega⟩ rfl (Nat.le_of_ble_eq_true rfl) (fun v53 h54 hq55 => ?_)
                    obtain ⟨rfl, hS51, hs52⟩ := hq55
                    have hF56 := hO.fr hs52 (by omega)
                    have hF57 := hN.fr hs52 (by omega)
                    dsimp only [Option.toList, List.cons_append, List.nil_append]
                    refine aw_ret (v := some (.int _)) eX6_plan_79 ⟨rfl, rfl⟩ (by omega) (by omega) rfl ?_
                    have hok : sPlanOk m tl p = true := (by rw [sPlanOk, c_31, zb_ne0.mp c_52]; rfl)
                    rw [cPlan, if_neg c_2, if_pos hok, if_neg cf]
                    exact ⟨rfl, hS51, hs52⟩
                · exact absurd (c_31.symm.trans c_57) (by decide)
      · refine aw_iconst (pc' := 23) (v := -1) eX6_plan_22 rfl (by decide) ?_
        refine aw_ret (v := some (.int _)) eX6_plan_23 ⟨rfl, rfl⟩ (by omega) (by omega) rfl ?_
        have hok : sPlanOk m tl p = false := pl_no (bI_fle c_19)
        rw [cPlan, if_neg c_2, if_neg (by rw [hok]; decide)]
        exact ⟨rfl, hS, Same.rf⟩
  · refine aw_aload_n (pc' := 6) eX6_plan_5 rfl rfl trivial ?_
    refine aw_Oget (pc' := 9) (ci := 6) (kf := 5) (N := 14) (.ref 49) hO eX6_plan_6 rfl rfl rfl inX6 (by decide) q255 rfl ?_
    refine aw_callv (pc' := 12) (nn := 0) (c_X1_emptied (d := d - 1) hS (by omega)) eX6_plan_9 rfl ⟨q625, q628, q58⟩ q626 q627 ⟨rfl, by decide +kernel, by decide +kernel, by decide +kernel⟩ rfl hS.ob rfl ⟨by omega, by decide⟩ ⟨by omega, by omega⟩ rfl (Nat.le_of_ble_eq_true rfl) (fun v60 h61 hq62 => ?_)
    obtain ⟨rfl, hS58, hs59⟩ := hq62
    have hF63 := hO.fr hs59 (by omega)
    have hF64 := hN.fr hs59 (by omega)
    dsimp only [Option.toList, List.cons_append, List.nil_append]
    refine aw_ret (v := some (.int _)) eX6_plan_12 ⟨rfl, rfl⟩ (by omega) (by omega) rfl ?_
    rw [cPlan, if_pos c_2]
    exact ⟨rfl, hS58, hs59⟩
def BoR (f g : Nat → Int32) (a : Nat) : Prop := ∀ r, r < a → f (3 * r) = g (107 + 2 * r) ∧ f (3 * r + 1) = g (108 + 2 * r)
def gB2 (g : Nat → Int32) (m a : Nat) : Prop := g 106 = nI a ∧ a ≤ 8 ∧ ∀ r, r < a → ∃ b, b < m ∧ g (107 + 2 * r) = nI b
abbrev mX6_looked : MT := (RX6, cX6_looked, 3, (some .int), false)
theorem eX6_looked_0 : decode mX6_looked.2.1 0 = .ok (.iconst 0, 1) := by decide +kernel
theorem eX6_looked_1 : decode mX6_looked.2.1 1 = .ok (.istore_n 1, 1) := by decide +kernel
theorem eX6_looked_2 : decode mX6_looked.2.1 2 = .ok (.iload_n 1, 1) := by decide +kernel
theorem eX6_looked_3 : decode mX6_looked.2.1 3 = .ok (.aload_n 0, 1) := by decide +kernel
theorem eX6_looked_4 : decode mX6_looked.2.1 4 = .ok (.getfield 41, 3) := by decide +kernel
theorem eX6_looked_7 : decode mX6_looked.2.1 7 = .ok (.getfield 201, 3) := by decide +kernel
theorem eX6_looked_10 : decode mX6_looked.2.1 10 = .ok (.if_icmp .ge 53, 3) := by decide +kernel
theorem eX6_looked_13 : decode mX6_looked.2.1 13 = .ok (.aload_n 0, 1) := by decide +kernel
theorem eX6_looked_14 : decode mX6_looked.2.1 14 = .ok (.getfield 41, 3) := by decide +kernel
theorem eX6_looked_17 : decode mX6_looked.2.1 17 = .ok (.iload_n 1, 1) := by decide +kernel
theorem eX6_looked_18 : decode mX6_looked.2.1 18 = .ok (.iconst 0, 1) := by decide +kernel
theorem eX6_looked_19 : decode mX6_looked.2.1 19 = .ok (.invokevirtual 204, 3) := by decide +kernel
theorem eX6_looked_22 : decode mX6_looked.2.1 22 = .ok (.istore_n 2, 1) := by decide +kernel
theorem eX6_looked_23 : decode mX6_looked.2.1 23 = .ok (.aload_n 0, 1) := by decide +kernel
theorem eX6_looked_24 : decode mX6_looked.2.1 24 = .ok (.getfield 16, 3) := by decide +kernel
theorem eX6_looked_27 : decode mX6_looked.2.1 27 = .ok (.iload_n 2, 1) := by decide +kernel
theorem eX6_looked_28 : decode mX6_looked.2.1 28 = .ok (.invokevirtual 85, 3) := by decide +kernel
theorem eX6_looked_31 : decode mX6_looked.2.1 31 = .ok (.ifCond .eq 26, 3) := by decide +kernel
theorem eX6_looked_34 : decode mX6_looked.2.1 34 = .ok (.aload_n 0, 1) := by decide +kernel
theorem eX6_looked_35 : decode mX6_looked.2.1 35 = .ok (.getfield 16, 3) := by decide +kernel
theorem eX6_looked_38 : decode mX6_looked.2.1 38 = .ok (.getfield 105, 3) := by decide +kernel
theorem eX6_looked_41 : decode mX6_looked.2.1 41 = .ok (.iload_n 2, 1) := by decide +kernel
theorem eX6_looked_42 : decode mX6_looked.2.1 42 = .ok (.iaload, 1) := by decide +kernel
theorem eX6_looked_43 : decode mX6_looked.2.1 43 = .ok (.aload_n 0, 1) := by decide +kernel
theorem eX6_looked_44 : decode mX6_looked.2.1 44 = .ok (.getfield 41, 3) := by decide +kernel
theorem eX6_looked_47 : decode mX6_looked.2.1 47 = .ok (.iload_n 1, 1) := by decide +kernel
theorem eX6_looked_48 : decode mX6_looked.2.1 48 = .ok (.iconst 1, 1) := by decide +kernel
theorem eX6_looked_49 : decode mX6_looked.2.1 49 = .ok (.invokevirtual 204, 3) := by decide +kernel
theorem eX6_looked_52 : decode mX6_looked.2.1 52 = .ok (.if_icmp .eq 5, 3) := by decide +kernel
theorem eX6_looked_55 : decode mX6_looked.2.1 55 = .ok (.iload_n 1, 1) := by decide +kernel
theorem eX6_looked_56 : decode mX6_looked.2.1 56 = .ok (.ireturn, 1) := by decide +kernel
theorem eX6_looked_57 : decode mX6_looked.2.1 57 = .ok (.iinc 1 1, 3) := by decide +kernel
theorem eX6_looked_60 : decode mX6_looked.2.1 60 = .ok (.goto (-58), 3) := by decide +kernel
theorem eX6_looked_63 : decode mX6_looked.2.1 63 = .ok (.bipush (-5), 2) := by decide +kernel
theorem eX6_looked_65 : decode mX6_looked.2.1 65 = .ok (.ireturn, 1) := by decide +kernel
theorem lp_X6_looked (hO : OA h 16 (.inr (6, afs bi se))) (hN : WF F h 17 g (nI 9999)) (hm : g 60 = nI m) (hm6 : m ≤ 6) (hS : RAt h 51 8 a f) (hBo : BoR f g a) (hg2 : gB2 g m a) (hd : 1 ≤ d) : ∀ (j q : Nat) (y : Int32) (o2 : Option Value), j = a - q → q ≤ a → y = nI q → Q (some (.int (sLook g (a - q) q))) h → AW l G mX6_looked d 0 0 Q 0 0 h [some (.ref 16), some (.int y), o2] [] 2 := by
  have ha8 := hg2.2.1
  intro j
  induction j using Nat.strongRecOn with
  | _ j ih =>
    intro q y o2 hj hq hy hQ
    subst hy
    refine aw_iload_n (pc' := 3) eX6_looked_2 rfl rfl ?_
    refine aw_aload_n (pc' := 4) eX6_looked_3 rfl rfl trivial ?_
    refine aw_Oget (pc' := 7) (ci := 6) (kf := 6) (N := 14) (.ref 51) hO eX6_looked_4 rfl rfl rfl inX6 (by decide) q256 rfl ?_
    refine aw_OgetN (pc' := 10) (ci := 1) (kf := 2) (N := 3) (.int (nI a)) (hS).1 eX6_looked_7 rfl rfl rfl inX1 (by decide) rfl (by decide) rfl ?_
    refine aw_icmp_ge (pc' := 13) (tgt := 63) eX6_looked_10 rfl (by decide) (fun c_10 => ?_) (fun c_10 => ?_)
    · have c9 := ge_nI (by omega) (by omega) c_10
      obtain rfl : q = a := by omega
      rw [Nat.sub_self] at hQ
      refine aw_bipush (pc' := 65) (v := -5) eX6_looked_63 rfl (by decide) ?_
      refine aw_ret (v := some (.int _)) eX6_looked_65 ⟨rfl, rfl⟩ (by omega) (by omega) rfl ?_
      exact hQ
    · have c9 := nge_nI (by omega) (by omega) c_10
      have hbo := hBo q c9
      obtain ⟨b, hb, eb⟩ := hg2.2.2 q c9
      have clb : (nI b).toNatClampNeg = b := nI_clamp (by omega)
      refine aw_aload_n (pc' := 14) eX6_looked_13 rfl rfl trivial ?_
      refine aw_Oget (pc' := 17) (ci := 6) (kf := 6) (N := 14) (.ref 51) hO eX6_looked_14 rfl rfl rfl inX6 (by decide) q256 rfl ?_
      refine aw_iload_n (pc' := 18) eX6_looked_17 rfl rfl ?_
      refine aw_iconst (pc' := 19) (v := 0) eX6_looked_18 rfl (by decide) ?_
      refine aw_callv (pc' := 22) (nn := 2) (c_X1_cell (d := d - 1) hS (r := q) (c := 0) (by omega) (by omega) (by omega)) eX6_looked_19 rfl ⟨q641, q644, q58⟩ q642 q643 ⟨rfl, by decide +kernel, by decide +kernel, by decide +kernel⟩ rfl hS.ob rfl ⟨by omega, by decide⟩ ⟨by omega, by omega⟩ rfl (Nat.le_of_ble_eq_true rfl) (fun v1 h2 hq3 => ?_)
      obtain ⟨rfl, rfl⟩ := hq3
      rw [show f (3 * q + 0) = nI b from hbo.1.trans eb]
      dsimp only [Option.toList, List.cons_append, List.nil_append]
      refine aw_istore_n (pc' := 23) eX6_looked_22 rfl (by decide) ?_
      dsimp only [zst, zst2, zcut]
      refine aw_aload_n (pc' := 24) eX6_looked_23 rfl rfl trivial ?_
      refine aw_Oget (pc' := 27) (ci := 6) (kf := 0) (N := 14) (.ref 17) hO eX6_looked_24 rfl rfl rfl inX6 (by decide) q250 rfl ?_
      refine aw_iload_n (pc' := 28) eX6_looked_27 rfl rfl ?_
      refine aw_callv (pc' := 31) (nn := 1) (c_X5_has (d := d - 1) hN hm hm6 _ (by omega)) eX6_looked_28 rfl ⟨q305, q308, q56⟩ q306 q307 ⟨rfl, by decide +kernel, by decide +kernel, by decide +kernel⟩ rfl hN.ob rfl ⟨by omega, by decide⟩ ⟨by omega, by omega⟩ rfl (Nat.le_of_ble_eq_true rfl) (fun v4 h5 hq6 => ?_)
      obtain ⟨rfl, rfl⟩ := hq6
      dsimp only [Option.toList, List.cons_append, List.nil_append]
      refine aw_if_eq (pc' := 34) (tgt := 57) eX6_looked_31 rfl (by decide) (fun c_31 => ?_) (fun c_31 => ?_)
      · refine aw_iinc (pc' := 60) eX6_looked_57 rfl rfl rfl (by decide) ?_
        dsimp only [zst, zst2, zcut]
        refine aw_goto eX6_looked_60 (by decide) (tgt := 2) ?_
        exact absurd (zb_eq0.mp c_31) (by rw [(bIn_one hm6).mpr ⟨b, hb, rfl⟩]; decide)
      · refine aw_aload_n (pc' := 35) eX6_looked_34 rfl rfl trivial ?_
        refine aw_Oget (pc' := 38) (ci := 6) (kf := 0) (N := 14) (.ref 17) hO eX6_looked_35 rfl rfl rfl inX6 (by decide) q250 rfl ?_
        refine aw_Fref (pc' := 41) (kf := 6) hN eX6_looked_38 rfl (by decide) q109 ?_
        refine aw_iload_n (pc' := 42) eX6_looked_41 rfl rfl ?_
        refine aw_Fld (pc' := 43) 6 5 b hN eX6_looked_42 rfl (by decide) rfl (show vp_in _ 6 from vp_in_nI (by omega) (by omega)) (nI_clamp (by omega)) ?_
        refine aw_aload_n (pc' := 44) eX6_looked_43 rfl rfl trivial ?_
        refine aw_Oget (pc' := 47) (ci := 6) (kf := 6) (N := 14) (.ref 51) hO eX6_looked_44 rfl rfl rfl inX6 (by decide) q256 rfl ?_
        refine aw_iload_n (pc' := 48) eX6_looked_47 rfl rfl ?_
        refine aw_iconst (pc' := 49) (v := 1) eX6_looked_48 rfl (by decide) ?_
        refine aw_callv (pc' := 52) (nn := 2) (c_X1_cell (d := d - 1) hS (r := q) (c := 1) (by omega) (by omega) (by omega)) eX6_looked_49 rfl ⟨q641, q644, q58⟩ q642 q643 ⟨rfl, by decide +kernel, by decide +kernel, by decide +kernel⟩ rfl hS.ob rfl ⟨by omega, by decide⟩ ⟨by omega, by omega⟩ rfl (Nat.le_of_ble_eq_true rfl) (fun v7 h8 hq9 => ?_)
        obtain ⟨rfl, rfl⟩ := hq9
        rw [hbo.2]
        dsimp only [Option.toList, List.cons_append, List.nil_append]
        refine aw_icmp_eq (pc' := 55) (tgt := 57) eX6_looked_52 rfl (by decide) (fun c_52 => ?_) (fun c_52 => ?_)
        · refine aw_iinc (pc' := 60) eX6_looked_57 rfl rfl rfl (by decide) ?_
          dsimp only [zst, zst2, zcut]
          refine aw_goto eX6_looked_60 (by decide) (tgt := 2) ?_
          rw [show a - q = a - (q + 1) + 1 by omega, sLook, eb, clb, if_pos c_52] at hQ
          exact ih (a - (q + 1)) (by omega) (q + 1) _ _ rfl (by omega) (nI_inc q) hQ
        · refine aw_iload_n (pc' := 56) eX6_looked_55 rfl rfl ?_
          refine aw_ret (v := some (.int _)) eX6_looked_56 ⟨rfl, rfl⟩ (by omega) (by omega) rfl ?_
          rw [show a - q = a - (q + 1) + 1 by omega, sLook, eb, clb, if_neg c_52] at hQ
          exact hQ
theorem c_X6_looked (hO : OA h 16 (.inr (6, afs bi se))) (hN : WF F h 17 g (nI 9999)) (hm : g 60 = nI m) (hm6 : m ≤ 6) (hS : RAt h 51 8 a f) (hBo : BoR f g a) (hg2 : gB2 g m a) (hd : 1 ≤ d) : Ct l G mX6_looked yX6_looked d 0 0 [.ref 16] h (fun r h' => r = some (.int (sLook g a 0)) ∧ h' = h) := by
  refine ct_of (lv := [some (.ref 16), none, none]) (by decide +kernel) rfl (fun z => by cases z) (fun _ => rfl) (fun _ => Nat.le_of_ble_eq_true rfl) ?_
  refine aw_iconst (pc' := 1) (v := 0) eX6_looked_0 rfl (by decide) ?_
  refine aw_istore_n (pc' := 2) eX6_looked_1 rfl (by decide) ?_
  dsimp only [zst, zst2, zcut]
  exact lp_X6_looked hO hN hm hm6 hS hBo hg2 hd a 0 _ _ (by omega) (by omega) rfl ⟨rfl, rfl⟩
end C19
