/-! the class AmberGrains is made -/
section C24
variable {l : Launch} {G : GT} {M : MT} {mc ms k n pc pc' : Nat} {lv : LV} {st : List Value} {d a : Nat} {h : Hp} {Q : Option Value → Hp → Prop}
theorem aw_Onwa {idx : Nat} {i : Int32} {N' : Nat} (hd : decode M.2.1 pc = .ok (.anewarray idx, 3)) (hn : pc + 3 = pc') (hcl : Cond.classLink M.1 idx "AmberGrains$Tape" ∈ TB) (hi : ¬ i < 0) (hN : i.toNatClampNeg = N') (hbytes : N' * 4 ≤ 536870912) (hk : k + 1 ≤ mc) (hm : n + N' ≤ ms)
    (kk : ∀ h', OA h' (h.1 + 16) (.inl (4, (N', .inr (.inr (.inr (.inr (fun _ => none))))))) → NewS h h' → AW l G M d mc ms Q (k + 1) (n + N') h' lv (.ref (h.1 + 16) :: st) pc') : AW l G M d mc ms Q k n h lv (.int i :: st) pc :=
  aw_anew hd hn hcl hi hN hbytes hk hm (kk _ ⟨if_pos rfl, by omega⟩ (NewS.hn _))
theorem aw_Oaas {b c N : Nat} {i : Int32} {f : Nat → Option Nat} (hO : OA h a (.inl (4, (N, .inr (.inr (.inr (.inr f))))))) (hd : decode M.2.1 pc = .ok (.aastore, 1)) (hn : pc + 1 = pc') (hi : vp_in i N) (hc : i.toNatClampNeg = c) (hob : zOb (h.2 b) 3 3)
    (kk : ∀ h', OA h' a (.inl (4, (N, .inr (.inr (.inr (.inr (va_up f c (some b)))))))) → Same a 1 h h' → AW l G M d mc ms Q k n h' lv st pc') : AW l G M d mc ms Q k n h lv (.ref b :: .int i :: .ref a :: st) pc := by
  have k0 := kk _ (hO.hs (e' := .inl (4, (N, .inr (.inr (.inr (.inr (va_up f c (some b))))))))) same_h1
  refine aw_aastore hd hn hO.2 (by rw [hO.1]; rfl) (by rw [hO.1]; exact hi) hob ?_
  rw [hO.1, hc]
  exact k0
theorem OA.fx {h' : Hp} {a : Nat} {e : zE} (hO : OA h a e) (q : ∀ x, a ≤ x → x < a + 1 → h'.2 x = h.2 x) : OA h' a e := ⟨(q a (by omega) (by omega)).trans hO.1, hO.2⟩
theorem RAt.fx {h' : Hp} {a most n : Nat} {f : Nat → Int32} (hR : RAt h a most n f) (q : ∀ x, a ≤ x → x < a + 2 → h'.2 x = h.2 x) : RAt h' a most n f := ⟨hR.1.fx fun x h1 h2 => q x (by omega) (by omega), hR.2.fx fun x h1 h2 => q x (by omega) (by omega)⟩
theorem TAt.fx {h' : Hp} {a : Nat} {s n : Int32} {f : Nat → Int64} (hR : TAt h a s n f) (q : ∀ x, a ≤ x → x < a + 2 → h'.2 x = h.2 x) : TAt h' a s n f := ⟨hR.1.fx fun x h1 h2 => q x (by omega) (by omega), hR.2.fx fun x h1 h2 => q x (by omega) (by omega)⟩
theorem VAt.fx {h' : Hp} {a : Nat} {i K v : Int32} {s : TS} (hR : VAt h a i K v s) (q : ∀ x, a ≤ x → x < a + 2 → h'.2 x = h.2 x) : VAt h' a i K v s := ⟨hR.1.fx fun x h1 h2 => q x (by omega) (by omega), hR.2.fx fun x h1 h2 => q x (by omega) (by omega)⟩
theorem RdAt.fx {h' : Hp} {e n a : Nat} {R : Nat → Int32} {b : Bool} {ss : List Int32} {r : Int32} (hR : RdAt h e n R a b ss r) (q : ∀ x, e ≤ x → x < e + 3 → h'.2 x = h.2 x) : RdAt h' e n R a b ss r := by
  obtain ⟨h1, ⟨T, h2, h3⟩, f, h4, h5⟩ := hR
  exact ⟨h1.fx fun x y z => q x (by omega) (by omega), ⟨T, h2.fx fun x y z => q x (by omega) (by omega), h3⟩, f, h4.fx fun x y z => q x (by omega) (by omega), h5⟩

abbrev mX6_init : MT := (RX6, cX6_init, 2, none, true)
theorem eX6_init_0 : decode mX6_init.2.1 0 = .ok (.aload_n 0, 1) := by decide +kernel
theorem eX6_init_1 : decode mX6_init.2.1 1 = .ok (.invokespecial 3, 3) := by decide +kernel
theorem eX6_init_4 : decode mX6_init.2.1 4 = .ok (.aload_n 0, 1) := by decide +kernel
theorem eX6_init_5 : decode mX6_init.2.1 5 = .ok (.new 9, 3) := by decide +kernel
theorem eX6_init_8 : decode mX6_init.2.1 8 = .ok (.dup, 1) := by decide +kernel
theorem eX6_init_9 : decode mX6_init.2.1 9 = .ok (.sipush 9999, 3) := by decide +kernel
theorem eX6_init_12 : decode mX6_init.2.1 12 = .ok (.invokespecial 13, 3) := by decide +kernel
theorem eX6_init_15 : decode mX6_init.2.1 15 = .ok (.putfield 16, 3) := by decide +kernel
theorem eX6_init_18 : decode mX6_init.2.1 18 = .ok (.aload_n 0, 1) := by decide +kernel
theorem eX6_init_19 : decode mX6_init.2.1 19 = .ok (.new 9, 3) := by decide +kernel
theorem eX6_init_22 : decode mX6_init.2.1 22 = .ok (.dup, 1) := by decide +kernel
theorem eX6_init_23 : decode mX6_init.2.1 23 = .ok (.ldc 20, 2) := by decide +kernel
theorem eX6_init_25 : decode mX6_init.2.1 25 = .ok (.invokespecial 13, 3) := by decide +kernel
theorem eX6_init_28 : decode mX6_init.2.1 28 = .ok (.putfield 21, 3) := by decide +kernel
theorem eX6_init_31 : decode mX6_init.2.1 31 = .ok (.aload_n 0, 1) := by decide +kernel
theorem eX6_init_32 : decode mX6_init.2.1 32 = .ok (.new 9, 3) := by decide +kernel
theorem eX6_init_35 : decode mX6_init.2.1 35 = .ok (.dup, 1) := by decide +kernel
theorem eX6_init_36 : decode mX6_init.2.1 36 = .ok (.sipush 9999, 3) := by decide +kernel
theorem eX6_init_39 : decode mX6_init.2.1 39 = .ok (.invokespecial 13, 3) := by decide +kernel
theorem eX6_init_42 : decode mX6_init.2.1 42 = .ok (.putfield 24, 3) := by decide +kernel
theorem eX6_init_45 : decode mX6_init.2.1 45 = .ok (.aload_n 0, 1) := by decide +kernel
theorem eX6_init_46 : decode mX6_init.2.1 46 = .ok (.iconst 0, 1) := by decide +kernel
theorem eX6_init_47 : decode mX6_init.2.1 47 = .ok (.putfield 27, 3) := by decide +kernel
theorem eX6_init_50 : decode mX6_init.2.1 50 = .ok (.aload_n 0, 1) := by decide +kernel
theorem eX6_init_51 : decode mX6_init.2.1 51 = .ok (.new 31, 3) := by decide +kernel
theorem eX6_init_54 : decode mX6_init.2.1 54 = .ok (.dup, 1) := by decide +kernel
theorem eX6_init_55 : decode mX6_init.2.1 55 = .ok (.iconst 5, 1) := by decide +kernel
theorem eX6_init_56 : decode mX6_init.2.1 56 = .ok (.invokespecial 33, 3) := by decide +kernel
theorem eX6_init_59 : decode mX6_init.2.1 59 = .ok (.putfield 34, 3) := by decide +kernel
theorem eX6_init_62 : decode mX6_init.2.1 62 = .ok (.aload_n 0, 1) := by decide +kernel
theorem eX6_init_63 : decode mX6_init.2.1 63 = .ok (.new 31, 3) := by decide +kernel
theorem eX6_init_66 : decode mX6_init.2.1 66 = .ok (.dup, 1) := by decide +kernel
theorem eX6_init_67 : decode mX6_init.2.1 67 = .ok (.bipush 10, 2) := by decide +kernel
theorem eX6_init_69 : decode mX6_init.2.1 69 = .ok (.invokespecial 33, 3) := by decide +kernel
theorem eX6_init_72 : decode mX6_init.2.1 72 = .ok (.putfield 38, 3) := by decide +kernel
theorem eX6_init_75 : decode mX6_init.2.1 75 = .ok (.aload_n 0, 1) := by decide +kernel
theorem eX6_init_76 : decode mX6_init.2.1 76 = .ok (.new 31, 3) := by decide +kernel
theorem eX6_init_79 : decode mX6_init.2.1 79 = .ok (.dup, 1) := by decide +kernel
theorem eX6_init_80 : decode mX6_init.2.1 80 = .ok (.bipush 8, 2) := by decide +kernel
theorem eX6_init_82 : decode mX6_init.2.1 82 = .ok (.invokespecial 33, 3) := by decide +kernel
theorem eX6_init_85 : decode mX6_init.2.1 85 = .ok (.putfield 41, 3) := by decide +kernel
theorem eX6_init_88 : decode mX6_init.2.1 88 = .ok (.aload_n 0, 1) := by decide +kernel
theorem eX6_init_89 : decode mX6_init.2.1 89 = .ok (.new 31, 3) := by decide +kernel
theorem eX6_init_92 : decode mX6_init.2.1 92 = .ok (.dup, 1) := by decide +kernel
theorem eX6_init_93 : decode mX6_init.2.1 93 = .ok (.iconst 5, 1) := by decide +kernel
theorem eX6_init_94 : decode mX6_init.2.1 94 = .ok (.invokespecial 33, 3) := by decide +kernel
theorem eX6_init_97 : decode mX6_init.2.1 97 = .ok (.putfield 44, 3) := by decide +kernel
theorem eX6_init_100 : decode mX6_init.2.1 100 = .ok (.aload_n 0, 1) := by decide +kernel
theorem eX6_init_101 : decode mX6_init.2.1 101 = .ok (.new 31, 3) := by decide +kernel
theorem eX6_init_104 : decode mX6_init.2.1 104 = .ok (.dup, 1) := by decide +kernel
theorem eX6_init_105 : decode mX6_init.2.1 105 = .ok (.bipush 10, 2) := by decide +kernel
theorem eX6_init_107 : decode mX6_init.2.1 107 = .ok (.invokespecial 33, 3) := by decide +kernel
theorem eX6_init_110 : decode mX6_init.2.1 110 = .ok (.putfield 47, 3) := by decide +kernel
theorem eX6_init_113 : decode mX6_init.2.1 113 = .ok (.aload_n 0, 1) := by decide +kernel
theorem eX6_init_114 : decode mX6_init.2.1 114 = .ok (.new 31, 3) := by decide +kernel
theorem eX6_init_117 : decode mX6_init.2.1 117 = .ok (.dup, 1) := by decide +kernel
theorem eX6_init_118 : decode mX6_init.2.1 118 = .ok (.bipush 8, 2) := by decide +kernel
theorem eX6_init_120 : decode mX6_init.2.1 120 = .ok (.invokespecial 33, 3) := by decide +kernel
theorem eX6_init_123 : decode mX6_init.2.1 123 = .ok (.putfield 50, 3) := by decide +kernel
theorem eX6_init_126 : decode mX6_init.2.1 126 = .ok (.aload_n 0, 1) := by decide +kernel
theorem eX6_init_127 : decode mX6_init.2.1 127 = .ok (.new 53, 3) := by decide +kernel
theorem eX6_init_130 : decode mX6_init.2.1 130 = .ok (.dup, 1) := by decide +kernel
theorem eX6_init_131 : decode mX6_init.2.1 131 = .ok (.invokespecial 55, 3) := by decide +kernel
theorem eX6_init_134 : decode mX6_init.2.1 134 = .ok (.putfield 56, 3) := by decide +kernel
theorem eX6_init_137 : decode mX6_init.2.1 137 = .ok (.aload_n 0, 1) := by decide +kernel
theorem eX6_init_138 : decode mX6_init.2.1 138 = .ok (.iconst 0, 1) := by decide +kernel
theorem eX6_init_139 : decode mX6_init.2.1 139 = .ok (.putfield 60, 3) := by decide +kernel
theorem eX6_init_142 : decode mX6_init.2.1 142 = .ok (.aload_n 0, 1) := by decide +kernel
theorem eX6_init_143 : decode mX6_init.2.1 143 = .ok (.bipush 6, 2) := by decide +kernel
theorem eX6_init_145 : decode mX6_init.2.1 145 = .ok (.anewarray 64, 3) := by decide +kernel
theorem eX6_init_148 : decode mX6_init.2.1 148 = .ok (.putfield 66, 3) := by decide +kernel
theorem eX6_init_151 : decode mX6_init.2.1 151 = .ok (.aload_n 0, 1) := by decide +kernel
theorem eX6_init_152 : decode mX6_init.2.1 152 = .ok (.new 70, 3) := by decide +kernel
theorem eX6_init_155 : decode mX6_init.2.1 155 = .ok (.dup, 1) := by decide +kernel
theorem eX6_init_156 : decode mX6_init.2.1 156 = .ok (.invokespecial 72, 3) := by decide +kernel
theorem eX6_init_159 : decode mX6_init.2.1 159 = .ok (.putfield 73, 3) := by decide +kernel
theorem eX6_init_162 : decode mX6_init.2.1 162 = .ok (.iconst 0, 1) := by decide +kernel
theorem eX6_init_163 : decode mX6_init.2.1 163 = .ok (.istore_n 1, 1) := by decide +kernel
theorem eX6_init_164 : decode mX6_init.2.1 164 = .ok (.iload_n 1, 1) := by decide +kernel
theorem eX6_init_165 : decode mX6_init.2.1 165 = .ok (.bipush 6, 2) := by decide +kernel
theorem eX6_init_167 : decode mX6_init.2.1 167 = .ok (.if_icmp .ge 22, 3) := by decide +kernel
theorem eX6_init_170 : decode mX6_init.2.1 170 = .ok (.aload_n 0, 1) := by decide +kernel
theorem eX6_init_171 : decode mX6_init.2.1 171 = .ok (.getfield 66, 3) := by decide +kernel
theorem eX6_init_174 : decode mX6_init.2.1 174 = .ok (.iload_n 1, 1) := by decide +kernel
theorem eX6_init_175 : decode mX6_init.2.1 175 = .ok (.new 64, 3) := by decide +kernel
theorem eX6_init_178 : decode mX6_init.2.1 178 = .ok (.dup, 1) := by decide +kernel
theorem eX6_init_179 : decode mX6_init.2.1 179 = .ok (.invokespecial 77, 3) := by decide +kernel
theorem eX6_init_182 : decode mX6_init.2.1 182 = .ok (.aastore, 1) := by decide +kernel
theorem eX6_init_183 : decode mX6_init.2.1 183 = .ok (.iinc 1 1, 3) := by decide +kernel
theorem eX6_init_186 : decode mX6_init.2.1 186 = .ok (.goto (-22), 3) := by decide +kernel
theorem eX6_init_189 : decode mX6_init.2.1 189 = .ok (.return_, 1) := by decide +kernel
theorem lp_X6_init {h0 : Hp} (hd : 2 ≤ d) : ∀ (j k : Nat) (y : Int32) (h : Hp) (f : Nat → Option Nat), j = 6 - k → k ≤ 6 → y = nI k → h.1 = 49 + 2 * k → OA h 16 (.inr (6, afs 0 0)) → OA h 62 (.inl (4, (6, .inr (.inr (.inr (.inr f)))))) → (∀ t, t < k → f t = some (65 + 2 * t)) → (∀ t, t < k → TAt h (65 + 2 * t) (-1) 0 (fun _ => 0)) → (∀ x, (x < 62 ∨ x = 63 ∨ x = 64) → h.2 x = h0.2 x) → (∀ h', h'.1 = 61 → OA h' 16 (.inr (6, afs 0 0)) → TpR h' (fun _ => -1) (fun _ => 0) (fun _ => 0) → (∀ x, (x < 62 ∨ x = 63 ∨ x = 64) → h'.2 x = h0.2 x) → Q none h') → AW l G mX6_init d 60 1069 Q (48 + 2 * k) (691 + 63 * k) h [some (.ref 16), some (.int y)] [] 164 := by
  intro j
  induction j using Nat.strongRecOn with
  | _ j ih =>
    intro k y h f hj hk hy hn hO hTA hf hT hp hQ
    subst hy
    refine aw_iload_n (pc' := 165) eX6_init_164 rfl rfl ?_
    refine aw_bipush (pc' := 167) (v := 6) eX6_init_165 rfl (by decide) ?_
    refine aw_icmp_ge (pc' := 170) (tgt := 189) eX6_init_167 rfl (by decide) (fun c_167 => ?_) (fun c_167 => ?_)
    · refine aw_ret (v := none) eX6_init_189 rfl (by omega) (by omega) rfl ?_
      obtain rfl : k = 6 := by have := ge_nI (b := 6) (by omega) (by omega) c_167; omega
      exact hQ _ hn hO ⟨f, hTA, hf, fun t ht => ⟨_, hT t ht, fun _ _ => rfl⟩⟩ hp
    · have c9 : k < 6 := nge_nI (b := 6) (by omega) (by omega) c_167
      refine aw_aload_n (pc' := 171) eX6_init_170 rfl rfl trivial ?_
      refine aw_Oget (pc' := 174) (ci := 6) (kf := 12) (N := 14) (.ref 62) hO eX6_init_171 rfl rfl rfl inX6 (by decide) q262 rfl ?_
      refine aw_iload_n (pc' := 175) eX6_init_174 rfl rfl ?_
      refine aw_Onwo (pc' := 178) (ci := 3) (N := 3) (fs := [.null, .int 0, .int 0]) eX6_init_175 rfl rfl inX3 tyX3_ok q205 q231 q61 (fun j hj => by rcases (by omega : j = 0 ∨ j = 1 ∨ j = 2) with rfl | rfl | rfl <;> rfl) (fun _ => rfl) (by omega) (by omega) (fun h1 hO2 hN3 => ?_)
      have n4 : h1.1 = 50 + 2 * k := by have := hN3.1; omega
      rw [show h.1 + 16 = (65 + 2 * k) from by omega] at hO2 ⊢
      have hF5 := hO.fx (fun x h1 h2 => hN3.2 x (by omega))
      have hF6 := hTA.fx (fun x h1 h2 => hN3.2 x (by omega))
      have hp7 := fun x (hx : x < 62 ∨ x = 63 ∨ x = 64) => (hN3.2 x (by omega)).trans (hp x hx)
      have hp8 := fun t ht => (hT t ht).fx (fun x h1 h2 => hN3.2 x (by omega))
      refine aw_dup (pc' := 179) eX6_init_178 rfl rfl ?_
      refine aw_calliN (pc' := 182) (nn := 0) (c_X3_init (d := d - 1) (h := h1) (u := (65 + 2 * k)) (by omega) (by omega) hO2.1 (by omega)) eX6_init_179 rfl rfl (by decide) q234 q61 q233 rfl rfl ⟨by decide +kernel, by decide +kernel, by decide +kernel⟩ rfl ⟨by omega, by decide⟩ ⟨by omega, by omega⟩ rfl (Nat.le_of_ble_eq_true rfl) (fun v17 h18 hq19 => ?_)
      obtain ⟨rfl, hX9, hN10, hf12⟩ := hq19
      have n11 : h18.1 = 49 + 2 * (k + 1) := by have := hN10; omega
      have hF13 := hF5.fx (fun x h1 h2 => hf12 x (by omega))
      have hF14 := hF6.fx (fun x h1 h2 => hf12 x (by omega))
      have hp15 := fun x (hx : x < 62 ∨ x = 63 ∨ x = 64) => (hf12 x (by omega)).trans (hp7 x hx)
      have hp16 := fun t ht => (hp8 t ht).fx (fun x h1 h2 => hf12 x (by omega))
      dsimp only [Option.toList, List.cons_append, List.nil_append]
      refine aw_Oaas (pc' := 183) (c := k) hF14 eX6_init_182 rfl (show vp_in _ 6 from vp_in_nI (by omega) (by omega)) (nI_clamp (by omega)) (hX9).ob (fun h20 hA21 hs22 => ?_)
      have hF23 := hF13.fx (fun x h1 h2 => hs22.2 x (by omega))
      have hF24 := hX9.fx (fun x h1 h2 => hs22.2 x (by omega))
      have hp25 := fun x (hx : x < 62 ∨ x = 63 ∨ x = 64) => (hs22.2 x (by omega)).trans (hp15 x hx)
      have hp26 := fun t ht => (hp16 t ht).fx (fun x h1 h2 => hs22.2 x (by omega))
      refine aw_iinc (pc' := 186) eX6_init_183 rfl rfl rfl (by decide) ?_
      dsimp only [zst, zst2, zcut]
      refine aw_goto eX6_init_186 (by decide) (tgt := 164) ?_
      refine ih (6 - (k + 1)) (by omega) (k + 1) _ _ _ rfl (by omega) (nI_inc k) (hs22.1.trans n11) hF23 hA21 (fun t ht => ?_) (fun t ht => ?_) hp25 hQ
      · unfold va_up
        by_cases c : t = k
        · rw [if_pos c, c]
        · rw [if_neg c]; exact hf t (by omega)
      · by_cases c : t = k
        · rw [c]; exact hF24
        · exact hp26 t (by omega)
theorem c_X6_init (hu : h.1 = 1) (hO : OA h 16 (.inr (6, [.null, .null, .null, .int 0, .null, .null, .null, .null, .null, .null, .null, .int 0, .null, .null]))) (hd : 3 ≤ d) : Ct l G mX6_init yX6_init d 60 1069 [.ref 16] h (fun r h' => r = none ∧ OA h' 16 (.inr (6, afs 0 0)) ∧ (WG h' 17 g0 (nI 9999) (fun _ => 0) .null ∧ WG h' 27 g0 (nI 2147483647) (fun _ => 0) .null ∧ WG h' 37 g0 (nI 9999) (fun _ => 0) .null) ∧ (RAt h' 47 5 0 (fun _ => 0) ∧ RAt h' 49 10 0 (fun _ => 0) ∧ RAt h' 51 8 0 (fun _ => 0)) ∧ (RAt h' 53 5 0 (fun _ => 0) ∧ RAt h' 55 10 0 (fun _ => 0) ∧ RAt h' 57 8 0 (fun _ => 0)) ∧ RdAt h' 59 0 (fun _ => 0) 0 true [] 30 ∧ TpR h' (fun _ => -1) (fun _ => 0) (fun _ => 0) ∧ VAt h' 63 0 0 0 ((fun _ => 0), 0) ∧ h'.1 = 61) := by
  refine ct_of (lv := [some (.ref 16), none]) (by decide +kernel) rfl (fun _ => rfl) (fun _ => rfl) (fun _ => Nat.le_of_ble_eq_true rfl) ?_
  refine aw_aload_n (pc' := 1) eX6_init_0 rfl rfl trivial ?_
  refine aw_objInit (pc' := 4) eX6_init_1 rfl q77 q78 q79 (by omega) (Nat.le_of_ble_eq_true rfl) ?_
  refine aw_aload_n (pc' := 5) eX6_init_4 rfl rfl trivial ?_
  refine aw_Onwo (pc' := 8) (ci := 5) (N := 15) (fs := [.int 0, .null, .null, .null, .null, .null, .null, .null, .null, .null, .int 0, .int 0, .int 0, .int 0, .null]) eX6_init_5 rfl rfl inX5 tyX5_ok q80 q81 q56 (fun j hj => by rcases (by omega : j = 0 ∨ j = 1 ∨ j = 2 ∨ j = 3 ∨ j = 4 ∨ j = 5 ∨ j = 6 ∨ j = 7 ∨ j = 8 ∨ j = 9 ∨ j = 10 ∨ j = 11 ∨ j = 12 ∨ j = 13 ∨ j = 14) with rfl | rfl | rfl | rfl | rfl | rfl | rfl | rfl | rfl | rfl | rfl | rfl | rfl | rfl | rfl <;> rfl) (fun _ => rfl) (by omega) (by omega) (fun h1 hO2 hN3 => ?_)
  have n4 : h1.1 = 2 := by have := hN3.1; omega
  rw [show h.1 + 16 = 17 from by omega] at hO2 ⊢
  have hF5 := hO.fx (fun x h1 h2 => hN3.2 x (by omega))
  refine aw_dup (pc' := 9) eX6_init_8 rfl rfl ?_
  refine aw_sipush (pc' := 12) (v := 9999) eX6_init_9 rfl (by decide) ?_
  refine aw_calli (pc' := 15) (nn := 1) (c_X5_init (d := d - 1) (h := h1) (u := 17) (o := nI 9999) (by omega) (by omega) hO2.1 (by omega)) eX6_init_12 rfl ⟨q82, q84, q56⟩ q83 rfl rfl ⟨by decide +kernel, by decide +kernel, by decide +kernel⟩ rfl ⟨by omega, by decide⟩ ⟨by omega, by omega⟩ rfl (Nat.le_of_ble_eq_true rfl) (fun v11 h12 hq13 => ?_)
  obtain ⟨rfl, hX6, hN7, hf9⟩ := hq13
  have n8 : h12.1 = 11 := by have := hN7; omega
  have hF10 := hF5.fx (fun x h1 h2 => hf9 x (by omega))
  dsimp only [Option.toList, List.cons_append, List.nil_append]
  refine aw_OputF (pc' := 18) (ci := 6) (kf := 0) (N := 14) (ty0 := tyX6) [.ref 17, .null, .null, .int 0, .null, .null, .null, .null, .null, .null, .null, .int 0, .null, .null] hF10 eX6_init_15 rfl rfl rfl inX6 tyX6_ok nmX6 (by decide) q250 rfl rfl rfl (by first | trivial | exact Or.inl rfl | exact Or.inr rfl | (simp [zfit]; done)) rfl (fun h14 hO15 hs16 => ?_)
  have n17 := hs16.1.trans n8
  have hF18 := hX6.fx (fun x h1 h2 => hs16.2 x (by omega))
  refine aw_aload_n (pc' := 19) eX6_init_18 rfl rfl trivial ?_
  refine aw_Onwo (pc' := 22) (ci := 5) (N := 15) (fs := [.int 0, .null, .null, .null, .null, .null, .null, .null, .null, .null, .int 0, .int 0, .int 0, .int 0, .null]) eX6_init_19 rfl rfl inX5 tyX5_ok q80 q81 q56 (fun j hj => by rcases (by omega : j = 0 ∨ j = 1 ∨ j = 2 ∨ j = 3 ∨ j = 4 ∨ j = 5 ∨ j = 6 ∨ j = 7 ∨ j = 8 ∨ j = 9 ∨ j = 10 ∨ j = 11 ∨ j = 12 ∨ j = 13 ∨ j = 14) with rfl | rfl | rfl | rfl | rfl | rfl | rfl | rfl | rfl | rfl | rfl | rfl | rfl | rfl | rfl <;> rfl) (fun _ => rfl) (by omega) (by omega) (fun h19 hO20 hN21 => ?_)
  have n22 : h19.1 = 12 := by have := hN21.1; omega
  rw [show h14.1 + 16 = 27 from by omega] at hO20 ⊢
  have hF23 := hO15.fx (fun x h1 h2 => hN21.2 x (by omega))
  have hF24 := hF18.fx (fun x h1 h2 => hN21.2 x (by omega))
  refine aw_dup (pc' := 23) eX6_init_22 rfl rfl ?_
  refine aw_ldc (pc' := 25) eX6_init_23 rfl q158 ?_
  refine aw_calli (pc' := 28) (nn := 1) (c_X5_init (d := d - 1) (h := h19) (u := 27) (o := nI 2147483647) (by omega) (by omega) hO20.1 (by omega)) eX6_init_25 rfl ⟨q82, q84, q56⟩ q83 rfl rfl ⟨by decide +kernel, by decide +kernel, by decide +kernel⟩ rfl ⟨by omega, by decide⟩ ⟨by omega, by omega⟩ rfl (Nat.le_of_ble_eq_true rfl) (fun v31 h32 hq33 => ?_)
  obtain ⟨rfl, hX25, hN26, hf28⟩ := hq33
  have n27 : h32.1 = 21 := by have := hN26; omega
  have hF29 := hF23.fx (fun x h1 h2 => hf28 x (by omega))
  have hF30 := hF24.fx (fun x h1 h2 => hf28 x (by omega))
  dsimp only [Option.toList, List.cons_append, List.nil_append]
  refine aw_OputF (pc' := 31) (ci := 6) (kf := 1) (N := 14) (ty0 := tyX6) [.ref 17, .ref 27, .null, .int 0, .null, .null, .null, .null, .null, .null, .null, .int 0, .null, .null] hF29 eX6_init_28 rfl rfl rfl inX6 tyX6_ok nmX6 (by decide) q251 rfl rfl rfl (by first | trivial | exact Or.inl rfl | exact Or.inr rfl | (simp [zfit]; done)) rfl (fun h34 hO35 hs36 => ?_)
  have n37 := hs36.1.trans n27
  have hF38 := hF30.fx (fun x h1 h2 => hs36.2 x (by omega))
  have hF39 := hX25.fx (fun x h1 h2 => hs36.2 x (by omega))
  refine aw_aload_n (pc' := 32) eX6_init_31 rfl rfl trivial ?_
  refine aw_Onwo (pc' := 35) (ci := 5) (N := 15) (fs := [.int 0, .null, .null, .null, .null, .null, .null, .null, .null, .null, .int 0, .int 0, .int 0, .int 0, .null]) eX6_init_32 rfl rfl inX5 tyX5_ok q80 q81 q56 (fun j hj => by rcases (by omega : j = 0 ∨ j = 1 ∨ j = 2 ∨ j = 3 ∨ j = 4 ∨ j = 5 ∨ j = 6 ∨ j = 7 ∨ j = 8 ∨ j = 9 ∨ j = 10 ∨ j = 11 ∨ j = 12 ∨ j = 13 ∨ j = 14) with rfl | rfl | rfl | rfl | rfl | rfl | rfl | rfl | rfl | rfl | rfl | rfl | rfl | rfl | rfl <;> rfl) (fun _ => rfl) (by omega) (by omega) (fun h40 hO41 hN42 => ?_)
  have n43 : h40.1 = 22 := by have := hN42.1; omega
  rw [show h34.1 + 16 = 37 from by omega] at hO41 ⊢
  have hF44 := hO35.fx (fun x h1 h2 => hN42.2 x (by omega))
  have hF45 := hF38.fx (fun x h1 h2 => hN42.2 x (by omega))
  have hF46 := hF39.fx (fun x h1 h2 => hN42.2 x (by omega))
  refine aw_dup (pc' := 36) eX6_init_35 rfl rfl ?_
  refine aw_sipush (pc' := 39) (v := 9999) eX6_init_36 rfl (by decide) ?_
  refine aw_calli (pc' := 42) (nn := 1) (c_X5_init (d := d - 1) (h := h40) (u := 37) (o := nI 9999) (by omega) (by omega) hO41.1 (by omega)) eX6_init_39 rfl ⟨q82, q84, q56⟩ q83 rfl rfl ⟨by decide +kernel, by decide +kernel, by decide +kernel⟩ rfl ⟨by omega, by decide⟩ ⟨by omega, by omega⟩ rfl (Nat.le_of_ble_eq_true rfl) (fun v54 h55 hq56 => ?_)
  obtain ⟨rfl, hX47, hN48, hf50⟩ := hq56
  have n49 : h55.1 = 31 := by have := hN48; omega
  have hF51 := hF44.fx (fun x h1 h2 => hf50 x (by omega))
  have hF52 := hF45.fx (fun x h1 h2 => hf50 x (by omega))
  have hF53 := hF46.fx (fun x h1 h2 => hf50 x (by omega))
  dsimp only [Option.toList, List.cons_append, List.nil_append]
  refine aw_OputF (pc' := 45) (ci := 6) (kf := 2) (N := 14) (ty0 := tyX6) [.ref 17, .ref 27, .ref 37, .int 0, .null, .null, .null, .null, .null, .null, .null, .int 0, .null, .null] hF51 eX6_init_42 rfl rfl rfl inX6 tyX6_ok nmX6 (by decide) q252 rfl rfl rfl (by first | trivial | exact Or.inl rfl | exact Or.inr rfl | (simp [zfit]; done)) rfl (fun h57 hO58 hs59 => ?_)
  have n60 := hs59.1.trans n49
  have hF61 := hF52.fx (fun x h1 h2 => hs59.2 x (by omega))
  have hF62 := hF53.fx (fun x h1 h2 => hs59.2 x (by omega))
  have hF63 := hX47.fx (fun x h1 h2 => hs59.2 x (by omega))
  refine aw_aload_n (pc' := 46) eX6_init_45 rfl rfl trivial ?_
  refine aw_iconst (pc' := 47) (v := 0) eX6_init_46 rfl (by decide) ?_
  refine aw_Oput (pc' := 50) (ci := 6) (kf := 3) (N := 14) (ty0 := tyX6) [.ref 17, .ref 27, .ref 37, .int 0, .null, .null, .null, .null, .null, .null, .null, .int 0, .null, .null] hO58 eX6_init_47 rfl rfl rfl inX6 tyX6_ok nmX6 (by decide) q253 rfl (by first | trivial | exact Or.inl rfl | exact Or.inr rfl | (simp [zfit]; done)) rfl (fun h64 hO65 hs66 => ?_)
  have n67 := hs66.1.trans n60
  have hF68 := hF61.fx (fun x h1 h2 => hs66.2 x (by omega))
  have hF69 := hF62.fx (fun x h1 h2 => hs66.2 x (by omega))
  have hF70 := hF63.fx (fun x h1 h2 => hs66.2 x (by omega))
  refine aw_aload_n (pc' := 51) eX6_init_50 rfl rfl trivial ?_
  refine aw_Onwo (pc' := 54) (ci := 1) (N := 3) (fs := [.int 0, .null, .int 0]) eX6_init_51 rfl rfl inX1 tyX1_ok q159 q160 q58 (fun j hj => by rcases (by omega : j = 0 ∨ j = 1 ∨ j = 2) with rfl | rfl | rfl <;> rfl) (fun _ => rfl) (by omega) (by omega) (fun h71 hO72 hN73 => ?_)
  have n74 : h71.1 = 32 := by have := hN73.1; omega
  rw [show h64.1 + 16 = 47 from by omega] at hO72 ⊢
  have hF75 := hO65.fx (fun x h1 h2 => hN73.2 x (by omega))
  have hF76 := hF68.fx (fun x h1 h2 => hN73.2 x (by omega))
  have hF77 := hF69.fx (fun x h1 h2 => hN73.2 x (by omega))
  have hF78 := hF70.fx (fun x h1 h2 => hN73.2 x (by omega))
  refine aw_dup (pc' := 55) eX6_init_54 rfl rfl ?_
  refine aw_iconst (pc' := 56) (v := 5) eX6_init_55 rfl (by decide) ?_
  refine aw_calli (pc' := 59) (nn := 1) (c_X1_init (d := d - 1) (h := h71) (u := 47) (most := 5) (by omega) (by omega) (by omega) hO72.1 (by omega)) eX6_init_56 rfl ⟨q161, q163, q58⟩ q162 rfl rfl ⟨by decide +kernel, by decide +kernel, by decide +kernel⟩ rfl ⟨by omega, by decide⟩ ⟨by omega, by omega⟩ rfl (Nat.le_of_ble_eq_true rfl) (fun v87 h88 hq89 => ?_)
  obtain ⟨rfl, hX79, hN80, hf82⟩ := hq89
  have n81 : h88.1 = 33 := by have := hN80; omega
  have hF83 := hF75.fx (fun x h1 h2 => hf82 x (by omega))
  have hF84 := hF76.fx (fun x h1 h2 => hf82 x (by omega))
  have hF85 := hF77.fx (fun x h1 h2 => hf82 x (by omega))
  have hF86 := hF78.fx (fun x h1 h2 => hf82 x (by omega))
  dsimp only [Option.toList, List.cons_append, List.nil_append]
  refine aw_OputF (pc' := 62) (ci := 6) (kf := 4) (N := 14) (ty0 := tyX6) [.ref 17, .ref 27, .ref 37, .int 0, .ref 47, .null, .null, .null, .null, .null, .null, .int 0, .null, .null] hF83 eX6_init_59 rfl rfl rfl inX6 tyX6_ok nmX6 (by decide) q254 rfl rfl rfl (by first | trivial | exact Or.inl rfl | exact Or.inr rfl | (simp [zfit]; done)) rfl (fun h90 hO91 hs92 => ?_)
  have n93 := hs92.1.trans n81
  have hF94 := hF84.fx (fun x h1 h2 => hs92.2 x (by omega))
  have hF95 := hF85.fx (fun x h1 h2 => hs92.2 x (by omega))
  have hF96 := hF86.fx (fun x h1 h2 => hs92.2 x (by omega))
  have hF97 := hX79.fx (fun x h1 h2 => hs92.2 x (by omega))
  refine aw_aload_n (pc' := 63) eX6_init_62 rfl rfl trivial ?_
  refine aw_Onwo (pc' := 66) (ci := 1) (N := 3) (fs := [.int 0, .null, .int 0]) eX6_init_63 rfl rfl inX1 tyX1_ok q159 q160 q58 (fun j hj => by rcases (by omega : j = 0 ∨ j = 1 ∨ j = 2) with rfl | rfl | rfl <;> rfl) (fun _ => rfl) (by omega) (by omega) (fun h98 hO99 hN100 => ?_)
  have n101 : h98.1 = 34 := by have := hN100.1; omega
  rw [show h90.1 + 16 = 49 from by omega] at hO99 ⊢
  have hF102 := hO91.fx (fun x h1 h2 => hN100.2 x (by omega))
  have hF103 := hF94.fx (fun x h1 h2 => hN100.2 x (by omega))
  have hF104 := hF95.fx (fun x h1 h2 => hN100.2 x (by omega))
  have hF105 := hF96.fx (fun x h1 h2 => hN100.2 x (by omega))
  have hF106 := hF97.fx (fun x h1 h2 => hN100.2 x (by omega))
  refine aw_dup (pc' := 67) eX6_init_66 rfl rfl ?_
  refine aw_bipush (pc' := 69) (v := 10) eX6_init_67 rfl (by decide) ?_
  refine aw_calli (pc' := 72) (nn := 1) (c_X1_init (d := d - 1) (h := h98) (u := 49) (most := 10) (by omega) (by omega) (by omega) hO99.1 (by omega)) eX6_init_69 rfl ⟨q161, q163, q58⟩ q162 rfl rfl ⟨by decide +kernel, by decide +kernel, by decide +kernel⟩ rfl ⟨by omega, by decide⟩ ⟨by omega, by omega⟩ rfl (Nat.le_of_ble_eq_true rfl) (fun v116 h117 hq118 => ?_)
  obtain ⟨rfl, hX107, hN108, hf110⟩ := hq118
  have n109 : h117.1 = 35 := by have := hN108; omega
  have hF111 := hF102.fx (fun x h1 h2 => hf110 x (by omega))
  have hF112 := hF103.fx (fun x h1 h2 => hf110 x (by omega))
  have hF113 := hF104.fx (fun x h1 h2 => hf110 x (by omega))
  have hF114 := hF105.fx (fun x h1 h2 => hf110 x (by omega))
  have hF115 := hF106.fx (fun x h1 h2 => hf110 x (by omega))
  dsimp only [Option.toList, List.cons_append, List.nil_append]
  refine aw_OputF (pc' := 75) (ci := 6) (kf := 5) (N := 14) (ty0 := tyX6) [.ref 17, .ref 27, .ref 37, .int 0, .ref 47, .ref 49, .null, .null, .null, .null, .null, .int 0, .null, .null] hF111 eX6_init_72 rfl rfl rfl inX6 tyX6_ok nmX6 (by decide) q255 rfl rfl rfl (by first | trivial | exact Or.inl rfl | exact Or.inr rfl | (simp [zfit]; done)) rfl (fun h119 hO120 hs121 => ?_)
  have n122 := hs121.1.trans n109
  have hF123 := hF112.fx (fun x h1 h2 => hs121.2 x (by omega))
  have hF124 := hF113.fx (fun x h1 h2 => hs121.2 x (by omega))
  have hF125 := hF114.fx (fun x h1 h2 => hs121.2 x (by omega))
  have hF126 := hF115.fx (fun x h1 h2 => hs121.2 x (by omega))
  have hF127 := hX107.fx (fun x h1 h2 => hs121.2 x (by omega))
  refine aw_aload_n (pc' := 76) eX6_init_75 rfl rfl trivial ?_
  refine aw_Onwo (pc' := 79) (ci := 1) (N := 3) (fs := [.int 0, .null, .int 0]) eX6_init_76 rfl rfl inX1 tyX1_ok q159 q160 q58 (fun j hj => by rcases (by omega : j = 0 ∨ j = 1 ∨ j = 2) with rfl | rfl | rfl <;> rfl) (fun _ => rfl) (by omega) (by omega) (fun h128 hO129 hN130 => ?_)
  have n131 : h128.1 = 36 := by have := hN130.1; omega
  rw [show h119.1 + 16 = 51 from by omega] at hO129 ⊢
  have hF132 := hO120.fx (fun x h1 h2 => hN130.2 x (by omega))
  have hF133 := hF123.fx (fun x h1 h2 => hN130.2 x (by omega))
  have hF134 := hF124.fx (fun x h1 h2 => hN130.2 x (by omega))
  have hF135 := hF125.fx (fun x h1 h2 => hN130.2 x (by omega))
  have hF136 := hF126.fx (fun x h1 h2 => hN130.2 x (by omega))
  have hF137 := hF127.fx (fun x h1 h2 => hN130.2 x (by omega))
  refine aw_dup (pc' := 80) eX6_init_79 rfl rfl ?_
  refine aw_bipush (pc' := 82) (v := 8) eX6_init_80 rfl (by decide) ?_
  refine aw_calli (pc' := 85) (nn := 1) (c_X1_init (d := d - 1) (h := h128) (u := 51) (most := 8) (by omega) (by omega) (by omega) hO129.1 (by omega)) eX6_init_82 rfl ⟨q161, q163, q58⟩ q162 rfl rfl ⟨by decide +kernel, by decide +kernel, by decide +kernel⟩ rfl ⟨by omega, by decide⟩ ⟨by omega, by omega⟩ rfl (Nat.le_of_ble_eq_true rfl) (fun v148 h149 hq150 => ?_)
  obtain ⟨rfl, hX138, hN139, hf141⟩ := hq150
  have n140 : h149.1 = 37 := by have := hN139; omega
  have hF142 := hF132.fx (fun x h1 h2 => hf141 x (by omega))
  have hF143 := hF133.fx (fun x h1 h2 => hf141 x (by omega))
  have hF144 := hF134.fx (fun x h1 h2 => hf141 x (by omega))
  have hF145 := hF135.fx (fun x h1 h2 => hf141 x (by omega))
  have hF146 := hF136.fx (fun x h1 h2 => hf141 x (by omega))
  have hF147 := hF137.fx (fun x h1 h2 => hf141 x (by omega))
  dsimp only [Option.toList, List.cons_append, List.nil_append]
  refine aw_OputF (pc' := 88) (ci := 6) (kf := 6) (N := 14) (ty0 := tyX6) [.ref 17, .ref 27, .ref 37, .int 0, .ref 47, .ref 49, .ref 51, .null, .null, .null, .null, .int 0, .null, .null] hF142 eX6_init_85 rfl rfl rfl inX6 tyX6_ok nmX6 (by decide) q256 rfl rfl rfl (by first | trivial | exact Or.inl rfl | exact Or.inr rfl | (simp [zfit]; done)) rfl (fun h151 hO152 hs153 => ?_)
  have n154 := hs153.1.trans n140
  have hF155 := hF143.fx (fun x h1 h2 => hs153.2 x (by omega))
  have hF156 := hF144.fx (fun x h1 h2 => hs153.2 x (by omega))
  have hF157 := hF145.fx (fun x h1 h2 => hs153.2 x (by omega))
  have hF158 := hF146.fx (fun x h1 h2 => hs153.2 x (by omega))
  have hF159 := hF147.fx (fun x h1 h2 => hs153.2 x (by omega))
  have hF160 := hX138.fx (fun x h1 h2 => hs153.2 x (by omega))
  refine aw_aload_n (pc' := 89) eX6_init_88 rfl rfl trivial ?_
  refine aw_Onwo (pc' := 92) (ci := 1) (N := 3) (fs := [.int 0, .null, .int 0]) eX6_init_89 rfl rfl inX1 tyX1_ok q159 q160 q58 (fun j hj => by rcases (by omega : j = 0 ∨ j = 1 ∨ j = 2) with rfl | rfl | rfl <;> rfl) (fun _ => rfl) (by omega) (by omega) (fun h161 hO162 hN163 => ?_)
  have n164 : h161.1 = 38 := by have := hN163.1; omega
  rw [show h151.1 + 16 = 53 from by omega] at hO162 ⊢
  have hF165 := hO152.fx (fun x h1 h2 => hN163.2 x (by omega))
  have hF166 := hF155.fx (fun x h1 h2 => hN163.2 x (by omega))
  have hF167 := hF156.fx (fun x h1 h2 => hN163.2 x (by omega))
  have hF168 := hF157.fx (fun x h1 h2 => hN163.2 x (by omega))
  have hF169 := hF158.fx (fun x h1 h2 => hN163.2 x (by omega))
  have hF170 := hF159.fx (fun x h1 h2 => hN163.2 x (by omega))
  have hF171 := hF160.fx (fun x h1 h2 => hN163.2 x (by omega))
  refine aw_dup (pc' := 93) eX6_init_92 rfl rfl ?_
  refine aw_iconst (pc' := 94) (v := 5) eX6_init_93 rfl (by decide) ?_
  refine aw_calli (pc' := 97) (nn := 1) (c_X1_init (d := d - 1) (h := h161) (u := 53) (most := 5) (by omega) (by omega) (by omega) hO162.1 (by omega)) eX6_init_94 rfl ⟨q161, q163, q58⟩ q162 rfl rfl ⟨by decide +kernel, by decide +kernel, by decide +kernel⟩ rfl ⟨by omega, by decide⟩ ⟨by omega, by omega⟩ rfl (Nat.le_of_ble_eq_true rfl) (fun v183 h184 hq185 => ?_)
  obtain ⟨rfl, hX172, hN173, hf175⟩ := hq185
  have n174 : h184.1 = 39 := by have := hN173; omega
  have hF176 := hF165.fx (fun x h1 h2 => hf175 x (by omega))
  have hF177 := hF166.fx (fun x h1 h2 => hf175 x (by omega))
  have hF178 := hF167.fx (fun x h1 h2 => hf175 x (by omega))
  have hF179 := hF168.fx (fun x h1 h2 => hf175 x (by omega))
  have hF180 := hF169.fx (fun x h1 h2 => hf175 x (by omega))
  have hF181 := hF170.fx (fun x h1 h2 => hf175 x (by omega))
  have hF182 := hF171.fx (fun x h1 h2 => hf175 x (by omega))
  dsimp only [Option.toList, List.cons_append, List.nil_append]
  refine aw_OputF (pc' := 100) (ci := 6) (kf := 7) (N := 14) (ty0 := tyX6) [.ref 17, .ref 27, .ref 37, .int 0, .ref 47, .ref 49, .ref 51, .ref 53, .null, .null, .null, .int 0, .null, .null] hF176 eX6_init_97 rfl rfl rfl inX6 tyX6_ok nmX6 (by decide) q257 rfl rfl rfl (by first | trivial | exact Or.inl rfl | exact Or.inr rfl | (simp [zfit]; done)) rfl (fun h186 hO187 hs188 => ?_)
  have n189 := hs188.1.trans n174
  have hF190 := hF177.fx (fun x h1 h2 => hs188.2 x (by omega))
  have hF191 := hF178.fx (fun x h1 h2 => hs188.2 x (by omega))
  have hF192 := hF179.fx (fun x h1 h2 => hs188.2 x (by omega))
  have hF193 := hF180.fx (fun x h1 h2 => hs188.2 x (by omega))
  have hF194 := hF181.fx (fun x h1 h2 => hs188.2 x (by omega))
  have hF195 := hF182.fx (fun x h1 h2 => hs188.2 x (by omega))
  have hF196 := hX172.fx (fun x h1 h2 => hs188.2 x (by omega))
  refine aw_aload_n (pc' := 101) eX6_init_100 rfl rfl trivial ?_
  refine aw_Onwo (pc' := 104) (ci := 1) (N := 3) (fs := [.int 0, .null, .int 0]) eX6_init_101 rfl rfl inX1 tyX1_ok q159 q160 q58 (fun j hj => by rcases (by omega : j = 0 ∨ j = 1 ∨ j = 2) with rfl | rfl | rfl <;> rfl) (fun _ => rfl) (by omega) (by omega) (fun h197 hO198 hN199 => ?_)
  have n200 : h197.1 = 40 := by have := hN199.1; omega
  rw [show h186.1 + 16 = 55 from by omega] at hO198 ⊢
  have hF201 := hO187.fx (fun x h1 h2 => hN199.2 x (by omega))
  have hF202 := hF190.fx (fun x h1 h2 => hN199.2 x (by omega))
  have hF203 := hF191.fx (fun x h1 h2 => hN199.2 x (by omega))
  have hF204 := hF192.fx (fun x h1 h2 => hN199.2 x (by omega))
  have hF205 := hF193.fx (fun x h1 h2 => hN199.2 x (by omega))
  have hF206 := hF194.fx (fun x h1 h2 => hN199.2 x (by omega))
  have hF207 := hF195.fx (fun x h1 h2 => hN199.2 x (by omega))
  have hF208 := hF196.fx (fun x h1 h2 => hN199.2 x (by omega))
  refine aw_dup (pc' := 105) eX6_init_104 rfl rfl ?_
  refine aw_bipush (pc' := 107) (v := 10) eX6_init_105 rfl (by decide) ?_
  refine aw_calli (pc' := 110) (nn := 1) (c_X1_init (d := d - 1) (h := h197) (u := 55) (most := 10) (by omega) (by omega) (by omega) hO198.1 (by omega)) eX6_init_107 rfl ⟨q161, q163, q58⟩ q162 rfl rfl ⟨by decide +kernel, by decide +kernel, by decide +kernel⟩ rfl ⟨by omega, by decide⟩ ⟨by omega, by omega⟩ rfl (Nat.le_of_ble_eq_true rfl) (fun v221 h222 hq223 => ?_)
  obtain ⟨rfl, hX209, hN210, hf212⟩ := hq223
  have n211 : h222.1 = 41 := by have := hN210; omega
  have hF213 := hF201.fx (fun x h1 h2 => hf212 x (by omega))
  have hF214 := hF202.fx (fun x h1 h2 => hf212 x (by omega))
  have hF215 := hF203.fx (fun x h1 h2 => hf212 x (by omega))
  have hF216 := hF204.fx (fun x h1 h2 => hf212 x (by omega))
  have hF217 := hF205.fx (fun x h1 h2 => hf212 x (by omega))
  have hF218 := hF206.fx (fun x h1 h2 => hf212 x (by omega))
  have hF219 := hF207.fx (fun x h1 h2 => hf212 x (by omega))
  have hF220 := hF208.fx (fun x h1 h2 => hf212 x (by omega))
  dsimp only [Option.toList, List.cons_append, List.nil_append]
  refine aw_OputF (pc' := 113) (ci := 6) (kf := 8) (N := 14) (ty0 := tyX6) [.ref 17, .ref 27, .ref 37, .int 0, .ref 47, .ref 49, .ref 51, .ref 53, .ref 55, .null, .null, .int 0, .null, .null] hF213 eX6_init_110 rfl rfl rfl inX6 tyX6_ok nmX6 (by decide) q258 rfl rfl rfl (by first | trivial | exact Or.inl rfl | exact Or.inr rfl | (simp [zfit]; done)) rfl (fun h224 hO225 hs226 => ?_)
  have n227 := hs226.1.trans n211
  have hF228 := hF214.fx (fun x h1 h2 => hs226.2 x (by omega))
  have hF229 := hF215.fx (fun x h1 h2 => hs226.2 x (by omega))
  have hF230 := hF216.fx (fun x h1 h2 => hs226.2 x (by omega))
  have hF231 := hF217.fx (fun x h1 h2 => hs226.2 x (by omega))
  have hF232 := hF218.fx (fun x h1 h2 => hs226.2 x (by omega))
  have hF233 := hF219.fx (fun x h1 h2 => hs226.2 x (by omega))
  have hF234 := hF220.fx (fun x h1 h2 => hs226.2 x (by omega))
  have hF235 := hX209.fx (fun x h1 h2 => hs226.2 x (by omega))
  refine aw_aload_n (pc' := 114) eX6_init_113 rfl rfl trivial ?_
  refine aw_Onwo (pc' := 117) (ci := 1) (N := 3) (fs := [.int 0, .null, .int 0]) eX6_init_114 rfl rfl inX1 tyX1_ok q159 q160 q58 (fun j hj => by rcases (by omega : j = 0 ∨ j = 1 ∨ j = 2) with rfl | rfl | rfl <;> rfl) (fun _ => rfl) (by omega) (by omega) (fun h236 hO237 hN238 => ?_)
  have n239 : h236.1 = 42 := by have := hN238.1; omega
  rw [show h224.1 + 16 = 57 from by omega] at hO237 ⊢
  have hF240 := hO225.fx (fun x h1 h2 => hN238.2 x (by omega))
  have hF241 := hF228.fx (fun x h1 h2 => hN238.2 x (by omega))
  have hF242 := hF229.fx (fun x h1 h2 => hN238.2 x (by omega))
  have hF243 := hF230.fx (fun x h1 h2 => hN238.2 x (by omega))
  have hF244 := hF231.fx (fun x h1 h2 => hN238.2 x (by omega))
  have hF245 := hF232.fx (fun x h1 h2 => hN238.2 x (by omega))
  have hF246 := hF233.fx (fun x h1 h2 => hN238.2 x (by omega))
  have hF247 := hF234.fx (fun x h1 h2 => hN238.2 x (by omega))
  have hF248 := hF235.fx (fun x h1 h2 => hN238.2 x (by omega))
  refine aw_dup (pc' := 118) eX6_init_117 rfl rfl ?_
  refine aw_bipush (pc' := 120) (v := 8) eX6_init_118 rfl (by decide) ?_
  refine aw_calli (pc' := 123) (nn := 1) (c_X1_init (d := d - 1) (h := h236) (u := 57) (most := 8) (by omega) (by omega) (by omega) hO237.1 (by omega)) eX6_init_120 rfl ⟨q161, q163, q58⟩ q162 rfl rfl ⟨by decide +kernel, by decide +kernel, by decide +kernel⟩ rfl ⟨by omega, by decide⟩ ⟨by omega, by omega⟩ rfl (Nat.le_of_ble_eq_true rfl) (fun v262 h263 hq264 => ?_)
  obtain ⟨rfl, hX249, hN250, hf252⟩ := hq264
  have n251 : h263.1 = 43 := by have := hN250; omega
  have hF253 := hF240.fx (fun x h1 h2 => hf252 x (by omega))
  have hF254 := hF241.fx (fun x h1 h2 => hf252 x (by omega))
  have hF255 := hF242.fx (fun x h1 h2 => hf252 x (by omega))
  have hF256 := hF243.fx (fun x h1 h2 => hf252 x (by omega))
  have hF257 := hF244.fx (fun x h1 h2 => hf252 x (by omega))
  have hF258 := hF245.fx (fun x h1 h2 => hf252 x (by omega))
  have hF259 := hF246.fx (fun x h1 h2 => hf252 x (by omega))
  have hF260 := hF247.fx (fun x h1 h2 => hf252 x (by omega))
  have hF261 := hF248.fx (fun x h1 h2 => hf252 x (by omega))
  dsimp only [Option.toList, List.cons_append, List.nil_append]
  refine aw_OputF (pc' := 126) (ci := 6) (kf := 9) (N := 14) (ty0 := tyX6) [.ref 17, .ref 27, .ref 37, .int 0, .ref 47, .ref 49, .ref 51, .ref 53, .ref 55, .ref 57, .null, .int 0, .null, .null] hF253 eX6_init_123 rfl rfl rfl inX6 tyX6_ok nmX6 (by decide) q259 rfl rfl rfl (by first | trivial | exact Or.inl rfl | exact Or.inr rfl | (simp [zfit]; done)) rfl (fun h265 hO266 hs267 => ?_)
  have n268 := hs267.1.trans n251
  have hF269 := hF254.fx (fun x h1 h2 => hs267.2 x (by omega))
  have hF270 := hF255.fx (fun x h1 h2 => hs267.2 x (by omega))
  have hF271 := hF256.fx (fun x h1 h2 => hs267.2 x (by omega))
  have hF272 := hF257.fx (fun x h1 h2 => hs267.2 x (by omega))
  have hF273 := hF258.fx (fun x h1 h2 => hs267.2 x (by omega))
  have hF274 := hF259.fx (fun x h1 h2 => hs267.2 x (by omega))
  have hF275 := hF260.fx (fun x h1 h2 => hs267.2 x (by omega))
  have hF276 := hF261.fx (fun x h1 h2 => hs267.2 x (by omega))
  have hF277 := hX249.fx (fun x h1 h2 => hs267.2 x (by omega))
  refine aw_aload_n (pc' := 127) eX6_init_126 rfl rfl trivial ?_
  refine aw_Onwo (pc' := 130) (ci := 0) (N := 7) (fs := [.null, .null, .int 0, .int 0, .int 0, .int 0, .int 0]) eX6_init_127 rfl rfl inX0 tyX0_ok q176 q177 q59 (fun j hj => by rcases (by omega : j = 0 ∨ j = 1 ∨ j = 2 ∨ j = 3 ∨ j = 4 ∨ j = 5 ∨ j = 6) with rfl | rfl | rfl | rfl | rfl | rfl | rfl <;> rfl) (fun _ => rfl) (by omega) (by omega) (fun h278 hO279 hN280 => ?_)
  have n281 : h278.1 = 44 := by have := hN280.1; omega
  rw [show h265.1 + 16 = 59 from by omega] at hO279 ⊢
  have hF282 := hO266.fx (fun x h1 h2 => hN280.2 x (by omega))
  have hF283 := hF269.fx (fun x h1 h2 => hN280.2 x (by omega))
  have hF284 := hF270.fx (fun x h1 h2 => hN280.2 x (by omega))
  have hF285 := hF271.fx (fun x h1 h2 => hN280.2 x (by omega))
  have hF286 := hF272.fx (fun x h1 h2 => hN280.2 x (by omega))
  have hF287 := hF273.fx (fun x h1 h2 => hN280.2 x (by omega))
  have hF288 := hF274.fx (fun x h1 h2 => hN280.2 x (by omega))
  have hF289 := hF275.fx (fun x h1 h2 => hN280.2 x (by omega))
  have hF290 := hF276.fx (fun x h1 h2 => hN280.2 x (by omega))
  have hF291 := hF277.fx (fun x h1 h2 => hN280.2 x (by omega))
  refine aw_dup (pc' := 131) eX6_init_130 rfl rfl ?_
  refine aw_calliN (pc' := 134) (nn := 0) (c_X0_init (d := d - 1) (h := h278) (u := 59) (by omega) (by omega) hO279.1 (by omega)) eX6_init_131 rfl rfl (by decide) q180 q59 q179 rfl rfl ⟨by decide +kernel, by decide +kernel, by decide +kernel⟩ rfl ⟨by omega, by decide⟩ ⟨by omega, by omega⟩ rfl (Nat.le_of_ble_eq_true rfl) (fun v306 h307 hq308 => ?_)
  obtain ⟨rfl, hX292, hN293, hf295⟩ := hq308
  have n294 : h307.1 = 46 := by have := hN293; omega
  have hF296 := hF282.fx (fun x h1 h2 => hf295 x (by omega))
  have hF297 := hF283.fx (fun x h1 h2 => hf295 x (by omega))
  have hF298 := hF284.fx (fun x h1 h2 => hf295 x (by omega))
  have hF299 := hF285.fx (fun x h1 h2 => hf295 x (by omega))
  have hF300 := hF286.fx (fun x h1 h2 => hf295 x (by omega))
  have hF301 := hF287.fx (fun x h1 h2 => hf295 x (by omega))
  have hF302 := hF288.fx (fun x h1 h2 => hf295 x (by omega))
  have hF303 := hF289.fx (fun x h1 h2 => hf295 x (by omega))
  have hF304 := hF290.fx (fun x h1 h2 => hf295 x (by omega))
  have hF305 := hF291.fx (fun x h1 h2 => hf295 x (by omega))
  dsimp only [Option.toList, List.cons_append, List.nil_append]
  refine aw_OputF (pc' := 137) (ci := 6) (kf := 10) (N := 14) (ty0 := tyX6) [.ref 17, .ref 27, .ref 37, .int 0, .ref 47, .ref 49, .ref 51, .ref 53, .ref 55, .ref 57, .ref 59, .int 0, .null, .null] hF296 eX6_init_134 rfl rfl rfl inX6 tyX6_ok nmX6 (by decide) q260 rfl rfl rfl (by first | trivial | exact Or.inl rfl | exact Or.inr rfl | (simp [zfit]; done)) rfl (fun h309 hO310 hs311 => ?_)
  have n312 := hs311.1.trans n294
  have hF313 := hF297.fx (fun x h1 h2 => hs311.2 x (by omega))
  have hF314 := hF298.fx (fun x h1 h2 => hs311.2 x (by omega))
  have hF315 := hF299.fx (fun x h1 h2 => hs311.2 x (by omega))
  have hF316 := hF300.fx (fun x h1 h2 => hs311.2 x (by omega))
  have hF317 := hF301.fx (fun x h1 h2 => hs311.2 x (by omega))
  have hF318 := hF302.fx (fun x h1 h2 => hs311.2 x (by omega))
  have hF319 := hF303.fx (fun x h1 h2 => hs311.2 x (by omega))
  have hF320 := hF304.fx (fun x h1 h2 => hs311.2 x (by omega))
  have hF321 := hF305.fx (fun x h1 h2 => hs311.2 x (by omega))
  have hF322 := hX292.fx (fun x h1 h2 => hs311.2 x (by omega))
  refine aw_aload_n (pc' := 138) eX6_init_137 rfl rfl trivial ?_
  refine aw_iconst (pc' := 139) (v := 0) eX6_init_138 rfl (by decide) ?_
  refine aw_Oput (pc' := 142) (ci := 6) (kf := 11) (N := 14) (ty0 := tyX6) [.ref 17, .ref 27, .ref 37, .int 0, .ref 47, .ref 49, .ref 51, .ref 53, .ref 55, .ref 57, .ref 59, .int 0, .null, .null] hO310 eX6_init_139 rfl rfl rfl inX6 tyX6_ok nmX6 (by decide) q261 rfl (by first | trivial | exact Or.inl rfl | exact Or.inr rfl | (simp [zfit]; done)) rfl (fun h323 hO324 hs325 => ?_)
  have n326 := hs325.1.trans n312
  have hF327 := hF313.fx (fun x h1 h2 => hs325.2 x (by omega))
  have hF328 := hF314.fx (fun x h1 h2 => hs325.2 x (by omega))
  have hF329 := hF315.fx (fun x h1 h2 => hs325.2 x (by omega))
  have hF330 := hF316.fx (fun x h1 h2 => hs325.2 x (by omega))
  have hF331 := hF317.fx (fun x h1 h2 => hs325.2 x (by omega))
  have hF332 := hF318.fx (fun x h1 h2 => hs325.2 x (by omega))
  have hF333 := hF319.fx (fun x h1 h2 => hs325.2 x (by omega))
  have hF334 := hF320.fx (fun x h1 h2 => hs325.2 x (by omega))
  have hF335 := hF321.fx (fun x h1 h2 => hs325.2 x (by omega))
  have hF336 := hF322.fx (fun x h1 h2 => hs325.2 x (by omega))
  refine aw_aload_n (pc' := 143) eX6_init_142 rfl rfl trivial ?_
  refine aw_bipush (pc' := 145) (v := 6) eX6_init_143 rfl (by decide) ?_
  refine aw_Onwa (pc' := 148) (N' := 6) eX6_init_145 rfl q205 (by decide) (by decide) (by decide) (by omega) (by omega) (fun h337 hO338 hN339 => ?_)
  have n340 : h337.1 = 47 := by have := hN339.1; omega
  rw [show h323.1 + 16 = 62 from by omega] at hO338 ⊢
  have hF341 := hO324.fx (fun x h1 h2 => hN339.2 x (by omega))
  have hF342 := hF327.fx (fun x h1 h2 => hN339.2 x (by omega))
  have hF343 := hF328.fx (fun x h1 h2 => hN339.2 x (by omega))
  have hF344 := hF329.fx (fun x h1 h2 => hN339.2 x (by omega))
  have hF345 := hF330.fx (fun x h1 h2 => hN339.2 x (by omega))
  have hF346 := hF331.fx (fun x h1 h2 => hN339.2 x (by omega))
  have hF347 := hF332.fx (fun x h1 h2 => hN339.2 x (by omega))
  have hF348 := hF333.fx (fun x h1 h2 => hN339.2 x (by omega))
  have hF349 := hF334.fx (fun x h1 h2 => hN339.2 x (by omega))
  have hF350 := hF335.fx (fun x h1 h2 => hN339.2 x (by omega))
  have hF351 := hF336.fx (fun x h1 h2 => hN339.2 x (by omega))
  refine aw_OputF (pc' := 151) (ci := 6) (kf := 12) (N := 14) (ty0 := tyX6) [.ref 17, .ref 27, .ref 37, .int 0, .ref 47, .ref 49, .ref 51, .ref 53, .ref 55, .ref 57, .ref 59, .int 0, .ref 62, .null] hF341 eX6_init_148 rfl rfl rfl inX6 tyX6_ok nmX6 (by decide) q262 rfl rfl rfl (by first | trivial | exact Or.inl rfl | exact Or.inr rfl | (simp [zfit]; done)) rfl (fun h352 hO353 hs354 => ?_)
  have n355 := hs354.1.trans n340
  have hF356 := hF342.fx (fun x h1 h2 => hs354.2 x (by omega))
  have hF357 := hF343.fx (fun x h1 h2 => hs354.2 x (by omega))
  have hF358 := hF344.fx (fun x h1 h2 => hs354.2 x (by omega))
  have hF359 := hF345.fx (fun x h1 h2 => hs354.2 x (by omega))
  have hF360 := hF346.fx (fun x h1 h2 => hs354.2 x (by omega))
  have hF361 := hF347.fx (fun x h1 h2 => hs354.2 x (by omega))
  have hF362 := hF348.fx (fun x h1 h2 => hs354.2 x (by omega))
  have hF363 := hF349.fx (fun x h1 h2 => hs354.2 x (by omega))
  have hF364 := hF350.fx (fun x h1 h2 => hs354.2 x (by omega))
  have hF365 := hF351.fx (fun x h1 h2 => hs354.2 x (by omega))
  have hF366 := hO338.fx (fun x h1 h2 => hs354.2 x (by omega))
  refine aw_aload_n (pc' := 152) eX6_init_151 rfl rfl trivial ?_
  refine aw_Onwo (pc' := 155) (ci := 4) (N := 5) (fs := [.null, .int 0, .int 0, .int 0, .int 0]) eX6_init_152 rfl rfl inX4 tyX4_ok q207 q208 q60 (fun j hj => by rcases (by omega : j = 0 ∨ j = 1 ∨ j = 2 ∨ j = 3 ∨ j = 4) with rfl | rfl | rfl | rfl | rfl <;> rfl) (fun _ => rfl) (by omega) (by omega) (fun h367 hO368 hN369 => ?_)
  have n370 : h367.1 = 48 := by have := hN369.1; omega
  rw [show h352.1 + 16 = 63 from by omega] at hO368 ⊢
  have hF371 := hO353.fx (fun x h1 h2 => hN369.2 x (by omega))
  have hF372 := hF356.fx (fun x h1 h2 => hN369.2 x (by omega))
  have hF373 := hF357.fx (fun x h1 h2 => hN369.2 x (by omega))
  have hF374 := hF358.fx (fun x h1 h2 => hN369.2 x (by omega))
  have hF375 := hF359.fx (fun x h1 h2 => hN369.2 x (by omega))
  have hF376 := hF360.fx (fun x h1 h2 => hN369.2 x (by omega))
  have hF377 := hF361.fx (fun x h1 h2 => hN369.2 x (by omega))
  have hF378 := hF362.fx (fun x h1 h2 => hN369.2 x (by omega))
  have hF379 := hF363.fx (fun x h1 h2 => hN369.2 x (by omega))
  have hF380 := hF364.fx (fun x h1 h2 => hN369.2 x (by omega))
  have hF381 := hF365.fx (fun x h1 h2 => hN369.2 x (by omega))
  have hF382 := hF366.fx (fun x h1 h2 => hN369.2 x (by omega))
  refine aw_dup (pc' := 156) eX6_init_155 rfl rfl ?_
  refine aw_calliN (pc' := 159) (nn := 0) (c_X4_init (d := d - 1) (h := h367) (u := 63) (by omega) (by omega) hO368.1 (by omega)) eX6_init_156 rfl rfl (by decide) q211 q60 q210 rfl rfl ⟨by decide +kernel, by decide +kernel, by decide +kernel⟩ rfl ⟨by omega, by decide⟩ ⟨by omega, by omega⟩ rfl (Nat.le_of_ble_eq_true rfl) (fun v399 h400 hq401 => ?_)
  obtain ⟨rfl, hX383, hN384, hf386⟩ := hq401
  have n385 : h400.1 = 49 := by have := hN384; omega
  have hF387 := hF371.fx (fun x h1 h2 => hf386 x (by omega))
  have hF388 := hF372.fx (fun x h1 h2 => hf386 x (by omega))
  have hF389 := hF373.fx (fun x h1 h2 => hf386 x (by omega))
  have hF390 := hF374.fx (fun x h1 h2 => hf386 x (by omega))
  have hF391 := hF375.fx (fun x h1 h2 => hf386 x (by omega))
  have hF392 := hF376.fx (fun x h1 h2 => hf386 x (by omega))
  have hF393 := hF377.fx (fun x h1 h2 => hf386 x (by omega))
  have hF394 := hF378.fx (fun x h1 h2 => hf386 x (by omega))
  have hF395 := hF379.fx (fun x h1 h2 => hf386 x (by omega))
  have hF396 := hF380.fx (fun x h1 h2 => hf386 x (by omega))
  have hF397 := hF381.fx (fun x h1 h2 => hf386 x (by omega))
  have hF398 := hF382.fx (fun x h1 h2 => hf386 x (by omega))
  dsimp only [Option.toList, List.cons_append, List.nil_append]
  refine aw_OputF (pc' := 162) (ci := 6) (kf := 13) (N := 14) (ty0 := tyX6) [.ref 17, .ref 27, .ref 37, .int 0, .ref 47, .ref 49, .ref 51, .ref 53, .ref 55, .ref 57, .ref 59, .int 0, .ref 62, .ref 63] hF387 eX6_init_159 rfl rfl rfl inX6 tyX6_ok nmX6 (by decide) q263 rfl rfl rfl (by first | trivial | exact Or.inl rfl | exact Or.inr rfl | (simp [zfit]; done)) rfl (fun h402 hO403 hs404 => ?_)
  have n405 := hs404.1.trans n385
  have hF406 := hF388.fx (fun x h1 h2 => hs404.2 x (by omega))
  have hF407 := hF389.fx (fun x h1 h2 => hs404.2 x (by omega))
  have hF408 := hF390.fx (fun x h1 h2 => hs404.2 x (by omega))
  have hF409 := hF391.fx (fun x h1 h2 => hs404.2 x (by omega))
  have hF410 := hF392.fx (fun x h1 h2 => hs404.2 x (by omega))
  have hF411 := hF393.fx (fun x h1 h2 => hs404.2 x (by omega))
  have hF412 := hF394.fx (fun x h1 h2 => hs404.2 x (by omega))
  have hF413 := hF395.fx (fun x h1 h2 => hs404.2 x (by omega))
  have hF414 := hF396.fx (fun x h1 h2 => hs404.2 x (by omega))
  have hF415 := hF397.fx (fun x h1 h2 => hs404.2 x (by omega))
  have hF416 := hF398.fx (fun x h1 h2 => hs404.2 x (by omega))
  have hF417 := hX383.fx (fun x h1 h2 => hs404.2 x (by omega))
  refine aw_iconst (pc' := 163) (v := 0) eX6_init_162 rfl (by decide) ?_
  refine aw_istore_n (pc' := 164) eX6_init_163 rfl (by decide) ?_
  dsimp only [zst, zst2, zcut]
  refine lp_X6_init (h0 := h402) (by omega) 6 0 _ h402 _ rfl (by omega) rfl n405 hO403 hF416 (fun t ht => absurd ht (Nat.not_lt_zero t)) (fun t ht => absurd ht (Nat.not_lt_zero t)) (fun _ _ => rfl) (fun h' hn hO hT hp => ?_)
  exact ⟨rfl, hO, ⟨hF406.fx (fun x h1 h2 => hp x (by omega)), hF407.fx (fun x h1 h2 => hp x (by omega)), hF408.fx (fun x h1 h2 => hp x (by omega))⟩, ⟨hF409.fx (fun x h1 h2 => hp x (by omega)), hF410.fx (fun x h1 h2 => hp x (by omega)), hF411.fx (fun x h1 h2 => hp x (by omega))⟩, ⟨hF412.fx (fun x h1 h2 => hp x (by omega)), hF413.fx (fun x h1 h2 => hp x (by omega)), hF414.fx (fun x h1 h2 => hp x (by omega))⟩, hF415.fx (fun x h1 h2 => hp x (by omega)), hT, hF417.fx (fun x h1 h2 => hp x (by omega)), hn⟩
end C24
