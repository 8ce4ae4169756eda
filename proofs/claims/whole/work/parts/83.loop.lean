/-! the law: its loop, its start -/
section LAW2
variable {l : Launch} {G : GT} {d mc ms k n i : Nat} {Q : Option Value → Hp → Prop} {h : Hp} {U : MS}
theorem L_less {L i : Nat} (hL : L ≤ 3072) (hi : i ≤ 4000) (hc : ¬ nI L - 6 < nI i) : i + 6 ≤ L := by
  by_cases c : 6 ≤ L
  · obtain ⟨m, rfl⟩ : ∃ m, L = m + 6 := ⟨L - 6, by omega⟩
    rw [show (6 : Int32) = nI 6 from rfl, nI_subn, nI_ltI (by omega) (by omega)] at hc
    omega
  · exfalso
    apply hc
    refine Int32.lt_of_lt_of_le ?_ (nI_pos' (n := i) (by omega))
    rcases (by omega : L = 0 ∨ L = 1 ∨ L = 2 ∨ L = 3 ∨ L = 4 ∨ L = 5) with rfl | rfl | rfl | rfl | rfl | rfl <;> decide
theorem L_head (hL : gL G ≤ 3072) (hi : i ≤ 3072) (hk : k ≤ mc) (hn : n ≤ ms) (kk : i + 6 ≤ gL G → AW l G mL d mc ms (fun r _ => r = some (.int 1)) k n h (LvL i) [] 27) : AW l G mL d mc ms (fun r _ => r = some (.int 1)) k n h (LvL i) [] 18 := by
  refine aw_iload_n (pc' := 19) eL_18 rfl rfl ?_
  refine aw_aload_n (pc' := 20) eL_19 rfl rfl trivial ?_
  refine aw_low fun hlow => ?_
  have h0 := hlow 0 (by decide)
  refine aw_alenL (pc' := 21) (kd := 0) eL_20 rfl (by decide) (by rw [h0]; rfl) ?_
  rw [h0]
  refine aw_bipush (v := 6) (pc' := 23) eL_21 rfl (by decide) ?_
  refine aw_isub (pc' := 24) eL_23 rfl ?_
  refine aw_icmp_gt (pc' := 27) (tgt := 1248) eL_24 rfl (by decide) (fun _ => ?_) (fun c => kk (L_less hL (by omega) c))
  refine aw_iconst (v := 1) (pc' := 1249) eL_1248 rfl (by decide) ?_
  exact aw_ret (v := some (.int 1)) eL_1249 ⟨rfl, rfl⟩ hk hn rfl rfl
theorem L_loop (hL : gL G ≤ 3072) (hd : 60 ≤ d) : ∀ (f i k n : Nat) (h : Hp) (U : MS), Inv h U → gL G ≤ i + 6 * f + 5 → i ≤ 3072 → k + 2 * f ≤ mc → n + 102 * f ≤ ms → AW l G mL d mc ms (fun r _ => r = some (.int 1)) k n h (LvL i) [] 18
  | 0, i, k, n, h, U, hI, hf, hi, hk, hn => L_head hL hi (by omega) (by omega) (fun c => absurd c (by omega))
  | f + 1, i, k, n, h, U, hI, hf, hi, hk, hn => by
    refine L_head hL hi (by omega) (by omega) (fun c => ?_)
    refine aw_aload_n (pc' := 28) eL_27 rfl rfl trivial ?_
    refine aw_iload_n (pc' := 29) eL_28 rfl rfl ?_
    refine aw_low fun hlow => ?_
    have h0 := hlow 0 (by decide)
    refine aw_iaload (pc' := 30) eL_29 rfl (by rw [h0]; rfl) (by rw [h0]; exact vp_in_nI (show i < gL G by omega) (Nat.lt_of_le_of_lt hL (by omega))) ?_
    refine aw_bipush (v := 63) (pc' := 32) eL_30 rfl (by decide) ?_
    refine aw_iand (pc' := 33) eL_32 rfl ?_
    refine L_disp hI c hL hd (by omega) (by omega) (fun h' U' k' n' hk' hn' hI' => ?_)
    refine aw_iinc (pc' := 1245) (v := nI (i + 6)) eL_1242 rfl rfl (by rw [show Int32.ofInt 6 = nI 6 from by decide, nI_add]) (by decide) ?_
    dsimp only [zst, zst2, zcut]
    refine aw_goto eL_1245 (by decide) (tgt := 18) ?_
    exact L_loop hL hd f (i + 6) k' n' h' U' hI' (by omega) (by omega) (by omega) (by omega)
theorem MI0 : MI U0 0 0 0 0 0 0 0 0 := by
  refine ⟨⟨rfl, rfl, fun _ _ => rfl, fun _ _ => rfl⟩, ⟨fun _ _ => ⟨0, by omega, rfl⟩, fun _ _ => ⟨⟨0, by omega, rfl⟩, Or.inl rfl⟩⟩, ⟨by omega, rfl⟩, ?_, Or.inl rfl, ⟨by omega, rfl, fun i hi => absurd hi (Nat.not_lt_zero i)⟩, by omega, rfl⟩
  refine ⟨⟨rfl, by omega, rfl, by omega, 0, by omega, rfl⟩, by omega, fun i hi => absurd hi (Nat.not_lt_zero i), fun i hi => absurd hi (Nat.not_lt_zero i), ⟨rfl, by omega, fun i hi => absurd hi (Nat.not_lt_zero i)⟩, ⟨rfl, by omega, fun i hi => absurd hi (Nat.not_lt_zero i)⟩, ⟨rfl, by omega, fun i hi => absurd hi (Nat.not_lt_zero i)⟩, 0, by omega, rfl⟩
theorem SR0 : SR (mRd U0) (g0 68) none := fun g hg i _ => by
  unfold mRd
  rw [if_pos (hg.trans (show g0 68 = 0 from rfl))]
  rfl
theorem L_start (hL : gL G ≤ 3072) (hd : 60 ≤ d) (hk : 2000 ≤ mc) (hn : 60000 ≤ ms) (h0 : h.1 = 0) : AW l G mL d mc ms (fun r _ => r = some (.int 1)) 0 0 h [some (.ref 0), none, none, none] [] 0 := by
  refine aw_Onwo (pc' := 3) (ci := 6) (N := 14) (fs := [.null, .null, .null, .int 0, .null, .null, .null, .null, .null, .null, .null, .int 0, .null, .null]) eL_0 rfl rfl inX6 tyX6_ok q72 q73 q55 (fun j hj => by rcases (by omega : j = 0 ∨ j = 1 ∨ j = 2 ∨ j = 3 ∨ j = 4 ∨ j = 5 ∨ j = 6 ∨ j = 7 ∨ j = 8 ∨ j = 9 ∨ j = 10 ∨ j = 11 ∨ j = 12 ∨ j = 13) with rfl | rfl | rfl | rfl | rfl | rfl | rfl | rfl | rfl | rfl | rfl | rfl | rfl | rfl <;> rfl) (fun _ => rfl) (by omega) (by omega) (fun ha hOa hNa => ?_)
  have na : ha.1 = 1 := by have := hNa.1; omega
  rw [show h.1 + 16 = 16 from by omega] at hOa ⊢
  refine aw_dup (pc' := 4) eL_3 rfl rfl ?_
  refine aw_calli (pc' := 7) (nn := 0) (c_X6_init (d := 50) na hOa (by omega)) eL_4 rfl ⟨q74, q76, q55⟩ q75 rfl rfl ⟨by decide +kernel, by decide +kernel, by decide +kernel⟩ rfl ⟨by omega, by decide⟩ ⟨by omega, by omega⟩ rfl (Nat.le_of_ble_eq_true rfl) (fun vb hb hqb => ?_)
  obtain ⟨rfl, xO, ⟨xW1, xW2, xW3⟩, ⟨xR1, xR2, xR3⟩, ⟨xI1, xI2, xI3⟩, xRd, xT, xV, nb⟩ := hqb
  dsimp only [Option.toList, List.cons_append, List.nil_append]
  refine aw_astore_n (pc' := 8) eL_7 rfl (by decide) trivial ?_
  dsimp only [zst, zst2, zcut]
  refine aw_Onwo (pc' := 11) (ci := 7) (N := 28) (fs := [.null, .null, .null, .int 0, .null, .int 0, .null, .null, .int 0, .null, .int 0, .int 0, .int 0, .int 0, .int 0, .int 0, .null, .null, .null, .null, .null, .null, .null, .int 0, .null, .null, .null, .null]) eL_8 rfl rfl inX7 tyX7_ok q780 q781 q62 (fun j hj => by rcases (by omega : j = 0 ∨ j = 1 ∨ j = 2 ∨ j = 3 ∨ j = 4 ∨ j = 5 ∨ j = 6 ∨ j = 7 ∨ j = 8 ∨ j = 9 ∨ j = 10 ∨ j = 11 ∨ j = 12 ∨ j = 13 ∨ j = 14 ∨ j = 15 ∨ j = 16 ∨ j = 17 ∨ j = 18 ∨ j = 19 ∨ j = 20 ∨ j = 21 ∨ j = 22 ∨ j = 23 ∨ j = 24 ∨ j = 25 ∨ j = 26 ∨ j = 27) with rfl | rfl | rfl | rfl | rfl | rfl | rfl | rfl | rfl | rfl | rfl | rfl | rfl | rfl | rfl | rfl | rfl | rfl | rfl | rfl | rfl | rfl | rfl | rfl | rfl | rfl | rfl | rfl <;> rfl) (fun _ => rfl) (by omega) (by omega) (fun hc hOc hNc => ?_)
  have nc : hc.1 = 62 := by have := hNc.1; omega
  rw [show hb.1 + 16 = 77 from by omega] at hOc ⊢
  refine aw_dup (pc' := 12) eL_11 rfl rfl ?_
  refine aw_calli (pc' := 15) (nn := 0) (c_X7_init (d := 50) (u := 77) (by omega) (by omega) hOc.1 (by omega)) eL_12 rfl ⟨q782, q784, q62⟩ q783 rfl rfl ⟨by decide +kernel, by decide +kernel, by decide +kernel⟩ rfl ⟨by omega, by decide⟩ ⟨by omega, by omega⟩ rfl (Nat.le_of_ble_eq_true rfl) (fun vd hd2 hqd => ?_)
  obtain ⟨rfl, xM, nd, xd⟩ := hqd
  dsimp only [Option.toList, List.cons_append, List.nil_append]
  refine aw_astore_n (pc' := 16) eL_15 rfl (by decide) trivial ?_
  dsimp only [zst, zst2, zcut]
  refine aw_iconst (v := 0) (pc' := 17) eL_16 rfl (by decide) ?_
  refine aw_istore_n (pc' := 18) eL_17 rfl (by decide) ?_
  dsimp only [zst, zst2, zcut]
  have q : ∀ x, x < 77 → hd2.2 x = hb.2 x := fun x hx => (xd x hx).trans (hNc.2 x (by omega))
  refine L_loop hL hd 512 0 _ _ hd2 U0 ⟨0, 0, 0, 0, 0, 0, 0, 0, MI0, ?_, xM, by omega⟩ (by omega) (by omega) (by omega) (by omega)
  refine ⟨xO.fx fun x _ _ => q x (by omega), ⟨by omega, _, _, none, WAt.fx xW1 fun x _ _ => q x (by omega), rfl, SR0⟩, ⟨_, WAt.fx xW2 fun x _ _ => q x (by omega), rfl⟩, Or.inl ⟨rfl, _, WAt.fx xW3 fun x _ _ => q x (by omega), rfl⟩, ?_, ?_, ?_, ?_, ?_, ?_, ⟨_, _, _, _, xRd.fx fun x _ _ => q x (by omega)⟩, ?_, ⟨_, _, _, xV.fx fun x _ _ => q x (by omega)⟩⟩
  · exact ⟨0, _, xR1.fx fun x _ _ => q x (by omega), by omega, rfl, fun r hr => absurd hr (Nat.not_lt_zero r)⟩
  · exact ⟨0, _, xR2.fx fun x _ _ => q x (by omega), by omega, rfl, fun r hr => absurd hr (Nat.not_lt_zero r)⟩
  · exact ⟨0, _, xR3.fx fun x _ _ => q x (by omega), by omega, rfl, fun r hr => absurd hr (Nat.not_lt_zero r)⟩
  · exact ⟨0, _, xI1.fx fun x _ _ => q x (by omega), by omega, fun z => absurd z (by decide)⟩
  · exact ⟨0, _, xI2.fx fun x _ _ => q x (by omega), by omega, fun z => absurd z (by decide)⟩
  · exact ⟨0, _, xI3.fx fun x _ _ => q x (by omega), by omega, fun z => absurd z (by decide)⟩
  · obtain ⟨fa, z1, z2, z3⟩ := xT
    refine ⟨fa, z1.fx fun x _ _ => q x (by omega), z2, fun t ht => ?_⟩
    obtain ⟨f, z4, z5⟩ := z3 t ht
    exact ⟨f, z4.fx fun x _ _ => q x (by omega), z5⟩
end LAW2
