/-! what the class is made of is made -/
section C23
variable {l : Launch} {G : GT} {d : Nat} {h : Hp} {Q : Option Value → Hp → Prop} {u : Nat}
theorem toS_f {o : Int32} : (toS g0 o (fun _ => 0) .null).1 = (toS g0 0 (fun _ => 0) .null).1 := rfl
theorem n_nn {x : Nat} (hx : x < 2 ^ 31) : ¬ nI x < 0 := fun y => by
  have := Int32.lt_iff_toInt_lt.mp y
  rw [nI_toInt hx, show (0 : Int32).toInt = 0 from by decide] at this
  omega

abbrev mX5_init : MT := (RX5, cX5_init, 2, none, true)
theorem eX5_init_0 : decode mX5_init.2.1 0 = .ok (.aload_n 0, 1) := by decide +kernel
theorem eX5_init_1 : decode mX5_init.2.1 1 = .ok (.invokespecial 3, 3) := by decide +kernel
theorem eX5_init_4 : decode mX5_init.2.1 4 = .ok (.aload_n 0, 1) := by decide +kernel
theorem eX5_init_5 : decode mX5_init.2.1 5 = .ok (.bipush 6, 2) := by decide +kernel
theorem eX5_init_7 : decode mX5_init.2.1 7 = .ok (.newarray .int, 2) := by decide +kernel
theorem eX5_init_9 : decode mX5_init.2.1 9 = .ok (.putfield 9, 3) := by decide +kernel
theorem eX5_init_12 : decode mX5_init.2.1 12 = .ok (.aload_n 0, 1) := by decide +kernel
theorem eX5_init_13 : decode mX5_init.2.1 13 = .ok (.bipush 6, 2) := by decide +kernel
theorem eX5_init_15 : decode mX5_init.2.1 15 = .ok (.newarray .int, 2) := by decide +kernel
theorem eX5_init_17 : decode mX5_init.2.1 17 = .ok (.putfield 15, 3) := by decide +kernel
theorem eX5_init_20 : decode mX5_init.2.1 20 = .ok (.aload_n 0, 1) := by decide +kernel
theorem eX5_init_21 : decode mX5_init.2.1 21 = .ok (.bipush 6, 2) := by decide +kernel
theorem eX5_init_23 : decode mX5_init.2.1 23 = .ok (.newarray .int, 2) := by decide +kernel
theorem eX5_init_25 : decode mX5_init.2.1 25 = .ok (.putfield 18, 3) := by decide +kernel
theorem eX5_init_28 : decode mX5_init.2.1 28 = .ok (.aload_n 0, 1) := by decide +kernel
theorem eX5_init_29 : decode mX5_init.2.1 29 = .ok (.bipush 6, 2) := by decide +kernel
theorem eX5_init_31 : decode mX5_init.2.1 31 = .ok (.newarray .int, 2) := by decide +kernel
theorem eX5_init_33 : decode mX5_init.2.1 33 = .ok (.putfield 21, 3) := by decide +kernel
theorem eX5_init_36 : decode mX5_init.2.1 36 = .ok (.aload_n 0, 1) := by decide +kernel
theorem eX5_init_37 : decode mX5_init.2.1 37 = .ok (.bipush 6, 2) := by decide +kernel
theorem eX5_init_39 : decode mX5_init.2.1 39 = .ok (.newarray .int, 2) := by decide +kernel
theorem eX5_init_41 : decode mX5_init.2.1 41 = .ok (.putfield 24, 3) := by decide +kernel
theorem eX5_init_44 : decode mX5_init.2.1 44 = .ok (.aload_n 0, 1) := by decide +kernel
theorem eX5_init_45 : decode mX5_init.2.1 45 = .ok (.bipush 6, 2) := by decide +kernel
theorem eX5_init_47 : decode mX5_init.2.1 47 = .ok (.newarray .int, 2) := by decide +kernel
theorem eX5_init_49 : decode mX5_init.2.1 49 = .ok (.putfield 27, 3) := by decide +kernel
theorem eX5_init_52 : decode mX5_init.2.1 52 = .ok (.aload_n 0, 1) := by decide +kernel
theorem eX5_init_53 : decode mX5_init.2.1 53 = .ok (.bipush 24, 2) := by decide +kernel
theorem eX5_init_55 : decode mX5_init.2.1 55 = .ok (.newarray .int, 2) := by decide +kernel
theorem eX5_init_57 : decode mX5_init.2.1 57 = .ok (.putfield 30, 3) := by decide +kernel
theorem eX5_init_60 : decode mX5_init.2.1 60 = .ok (.aload_n 0, 1) := by decide +kernel
theorem eX5_init_61 : decode mX5_init.2.1 61 = .ok (.iconst 4, 1) := by decide +kernel
theorem eX5_init_62 : decode mX5_init.2.1 62 = .ok (.newarray .int, 2) := by decide +kernel
theorem eX5_init_64 : decode mX5_init.2.1 64 = .ok (.dup, 1) := by decide +kernel
theorem eX5_init_65 : decode mX5_init.2.1 65 = .ok (.iconst 0, 1) := by decide +kernel
theorem eX5_init_66 : decode mX5_init.2.1 66 = .ok (.iconst 1, 1) := by decide +kernel
theorem eX5_init_67 : decode mX5_init.2.1 67 = .ok (.iastore, 1) := by decide +kernel
theorem eX5_init_68 : decode mX5_init.2.1 68 = .ok (.dup, 1) := by decide +kernel
theorem eX5_init_69 : decode mX5_init.2.1 69 = .ok (.iconst 1, 1) := by decide +kernel
theorem eX5_init_70 : decode mX5_init.2.1 70 = .ok (.iconst 1, 1) := by decide +kernel
theorem eX5_init_71 : decode mX5_init.2.1 71 = .ok (.iastore, 1) := by decide +kernel
theorem eX5_init_72 : decode mX5_init.2.1 72 = .ok (.dup, 1) := by decide +kernel
theorem eX5_init_73 : decode mX5_init.2.1 73 = .ok (.iconst 2, 1) := by decide +kernel
theorem eX5_init_74 : decode mX5_init.2.1 74 = .ok (.iconst 1, 1) := by decide +kernel
theorem eX5_init_75 : decode mX5_init.2.1 75 = .ok (.iastore, 1) := by decide +kernel
theorem eX5_init_76 : decode mX5_init.2.1 76 = .ok (.dup, 1) := by decide +kernel
theorem eX5_init_77 : decode mX5_init.2.1 77 = .ok (.iconst 3, 1) := by decide +kernel
theorem eX5_init_78 : decode mX5_init.2.1 78 = .ok (.iconst 1, 1) := by decide +kernel
theorem eX5_init_79 : decode mX5_init.2.1 79 = .ok (.iastore, 1) := by decide +kernel
theorem eX5_init_80 : decode mX5_init.2.1 80 = .ok (.putfield 33, 3) := by decide +kernel
theorem eX5_init_83 : decode mX5_init.2.1 83 = .ok (.aload_n 0, 1) := by decide +kernel
theorem eX5_init_84 : decode mX5_init.2.1 84 = .ok (.ldc 38, 2) := by decide +kernel
theorem eX5_init_86 : decode mX5_init.2.1 86 = .ok (.invokevirtual 40, 3) := by decide +kernel
theorem eX5_init_89 : decode mX5_init.2.1 89 = .ok (.newarray .int, 2) := by decide +kernel
theorem eX5_init_91 : decode mX5_init.2.1 91 = .ok (.putfield 46, 3) := by decide +kernel
theorem eX5_init_94 : decode mX5_init.2.1 94 = .ok (.aload_n 0, 1) := by decide +kernel
theorem eX5_init_95 : decode mX5_init.2.1 95 = .ok (.iconst 0, 1) := by decide +kernel
theorem eX5_init_96 : decode mX5_init.2.1 96 = .ok (.putfield 49, 3) := by decide +kernel
theorem eX5_init_99 : decode mX5_init.2.1 99 = .ok (.aload_n 0, 1) := by decide +kernel
theorem eX5_init_100 : decode mX5_init.2.1 100 = .ok (.sipush 273, 3) := by decide +kernel
theorem eX5_init_103 : decode mX5_init.2.1 103 = .ok (.putfield 53, 3) := by decide +kernel
theorem eX5_init_106 : decode mX5_init.2.1 106 = .ok (.aload_n 0, 1) := by decide +kernel
theorem eX5_init_107 : decode mX5_init.2.1 107 = .ok (.iconst 0, 1) := by decide +kernel
theorem eX5_init_108 : decode mX5_init.2.1 108 = .ok (.putfield 56, 3) := by decide +kernel
theorem eX5_init_111 : decode mX5_init.2.1 111 = .ok (.aload_n 0, 1) := by decide +kernel
theorem eX5_init_112 : decode mX5_init.2.1 112 = .ok (.iconst 0, 1) := by decide +kernel
theorem eX5_init_113 : decode mX5_init.2.1 113 = .ok (.putfield 59, 3) := by decide +kernel
theorem eX5_init_116 : decode mX5_init.2.1 116 = .ok (.aload_n 0, 1) := by decide +kernel
theorem eX5_init_117 : decode mX5_init.2.1 117 = .ok (.aconst_null, 1) := by decide +kernel
theorem eX5_init_118 : decode mX5_init.2.1 118 = .ok (.putfield 62, 3) := by decide +kernel
theorem eX5_init_121 : decode mX5_init.2.1 121 = .ok (.aload_n 0, 1) := by decide +kernel
theorem eX5_init_122 : decode mX5_init.2.1 122 = .ok (.iload_n 1, 1) := by decide +kernel
theorem eX5_init_123 : decode mX5_init.2.1 123 = .ok (.putfield 66, 3) := by decide +kernel
theorem eX5_init_126 : decode mX5_init.2.1 126 = .ok (.return_, 1) := by decide +kernel
theorem c_X5_init {o : Int32} (hu : h.1 + 15 = u) (hu16 : 16 ≤ u) (he : h.2 u = .inr (5, [.int 0, .null, .null, .null, .null, .null, .null, .null, .null, .null, .int 0, .int 0, .int 0, .int 0, .null])) (hd : 2 ≤ d) : Ct l G mX5_init yX5_init d 9 70 [.ref u, .int o] h (fun r h' => r = none ∧ WG h' u g0 o (fun _ => 0) .null ∧ h'.1 = h.1 + 9 ∧ ∀ a, a < u → h'.2 a = h.2 a) := by
  refine ct_of (lv := [some (.ref u), some (.int o)]) (by decide +kernel) rfl (fun _ => rfl) (fun _ => rfl) (fun _ => Nat.le_of_ble_eq_true rfl) ?_
  have hB := Bl.start hu he
  refine aw_aload_n (pc' := 1) eX5_init_0 rfl rfl trivial ?_
  refine aw_objInit (pc' := 4) eX5_init_1 rfl q85 q78 q79 (by omega) (Nat.le_of_ble_eq_true rfl) ?_
  refine aw_aload_n (pc' := 5) eX5_init_4 rfl rfl trivial ?_
  refine aw_bipush (pc' := 7) (v := 6) eX5_init_5 rfl (by decide) ?_
  refine aw_Bnew (pc' := 9) (kd := 0) (N' := 6) (x := (6, .inl (fun _ => 0))) [.inl (0, (6, .inl (fun _ => 0)))] hB eX5_init_7 rfl q156 (by decide) rfl (fun _ => rfl) (fun _ => rfl) (by decide) (by decide) (by decide) (by omega) (by omega) rfl (fun h2 hB1 => ?_)
  refine aw_BputF (pc' := 12) (ci := 5) (kf := 1) (N := 15) (ty0 := tyX5) [.int 0, .ref (u + 1 + 0), .null, .null, .null, .null, .null, .null, .null, .null, .int 0, .int 0, .int 0, .int 0, .null] hB1 eX5_init_9 rfl rfl rfl inX5 tyX5_ok nmX5 (by decide) q98 rfl rfl rfl (by first | trivial | exact Or.inl rfl | exact Or.inr rfl) rfl (fun h4 hB3 => ?_)
  refine aw_aload_n (pc' := 13) eX5_init_12 rfl rfl trivial ?_
  refine aw_bipush (pc' := 15) (v := 6) eX5_init_13 rfl (by decide) ?_
  refine aw_Bnew (pc' := 17) (kd := 0) (N' := 6) (x := (6, .inl (fun _ => 0))) [.inl (0, (6, .inl (fun _ => 0))), .inl (0, (6, .inl (fun _ => 0)))] hB3 eX5_init_15 rfl q156 (by decide) rfl (fun _ => rfl) (fun _ => rfl) (by decide) (by decide) (by decide) (by omega) (by omega) rfl (fun h6 hB5 => ?_)
  refine aw_BputF (pc' := 20) (ci := 5) (kf := 2) (N := 15) (ty0 := tyX5) [.int 0, .ref (u + 1 + 0), .ref (u + 1 + 1), .null, .null, .null, .null, .null, .null, .null, .int 0, .int 0, .int 0, .int 0, .null] hB5 eX5_init_17 rfl rfl rfl inX5 tyX5_ok nmX5 (by decide) q100 rfl rfl rfl (by first | trivial | exact Or.inl rfl | exact Or.inr rfl) rfl (fun h8 hB7 => ?_)
  refine aw_aload_n (pc' := 21) eX5_init_20 rfl rfl trivial ?_
  refine aw_bipush (pc' := 23) (v := 6) eX5_init_21 rfl (by decide) ?_
  refine aw_Bnew (pc' := 25) (kd := 0) (N' := 6) (x := (6, .inl (fun _ => 0))) [.inl (0, (6, .inl (fun _ => 0))), .inl (0, (6, .inl (fun _ => 0))), .inl (0, (6, .inl (fun _ => 0)))] hB7 eX5_init_23 rfl q156 (by decide) rfl (fun _ => rfl) (fun _ => rfl) (by decide) (by decide) (by decide) (by omega) (by omega) rfl (fun h10 hB9 => ?_)
  refine aw_BputF (pc' := 28) (ci := 5) (kf := 3) (N := 15) (ty0 := tyX5) [.int 0, .ref (u + 1 + 0), .ref (u + 1 + 1), .ref (u + 1 + 2), .null, .null, .null, .null, .null, .null, .int 0, .int 0, .int 0, .int 0, .null] hB9 eX5_init_25 rfl rfl rfl inX5 tyX5_ok nmX5 (by decide) q102 rfl rfl rfl (by first | trivial | exact Or.inl rfl | exact Or.inr rfl) rfl (fun h12 hB11 => ?_)
  refine aw_aload_n (pc' := 29) eX5_init_28 rfl rfl trivial ?_
  refine aw_bipush (pc' := 31) (v := 6) eX5_init_29 rfl (by decide) ?_
  refine aw_Bnew (pc' := 33) (kd := 0) (N' := 6) (x := (6, .inl (fun _ => 0))) [.inl (0, (6, .inl (fun _ => 0))), .inl (0, (6, .inl (fun _ => 0))), .inl (0, (6, .inl (fun _ => 0))), .inl (0, (6, .inl (fun _ => 0)))] hB11 eX5_init_31 rfl q156 (by decide) rfl (fun _ => rfl) (fun _ => rfl) (by decide) (by decide) (by decide) (by omega) (by omega) rfl (fun h14 hB13 => ?_)
  refine aw_BputF (pc' := 36) (ci := 5) (kf := 4) (N := 15) (ty0 := tyX5) [.int 0, .ref (u + 1 + 0), .ref (u + 1 + 1), .ref (u + 1 + 2), .ref (u + 1 + 3), .null, .null, .null, .null, .null, .int 0, .int 0, .int 0, .int 0, .null] hB13 eX5_init_33 rfl rfl rfl inX5 tyX5_ok nmX5 (by decide) q104 rfl rfl rfl (by first | trivial | exact Or.inl rfl | exact Or.inr rfl) rfl (fun h16 hB15 => ?_)
  refine aw_aload_n (pc' := 37) eX5_init_36 rfl rfl trivial ?_
  refine aw_bipush (pc' := 39) (v := 6) eX5_init_37 rfl (by decide) ?_
  refine aw_Bnew (pc' := 41) (kd := 0) (N' := 6) (x := (6, .inl (fun _ => 0))) [.inl (0, (6, .inl (fun _ => 0))), .inl (0, (6, .inl (fun _ => 0))), .inl (0, (6, .inl (fun _ => 0))), .inl (0, (6, .inl (fun _ => 0))), .inl (0, (6, .inl (fun _ => 0)))] hB15 eX5_init_39 rfl q156 (by decide) rfl (fun _ => rfl) (fun _ => rfl) (by decide) (by decide) (by decide) (by omega) (by omega) rfl (fun h18 hB17 => ?_)
  refine aw_BputF (pc' := 44) (ci := 5) (kf := 5) (N := 15) (ty0 := tyX5) [.int 0, .ref (u + 1 + 0), .ref (u + 1 + 1), .ref (u + 1 + 2), .ref (u + 1 + 3), .ref (u + 1 + 4), .null, .null, .null, .null, .int 0, .int 0, .int 0, .int 0, .null] hB17 eX5_init_41 rfl rfl rfl inX5 tyX5_ok nmX5 (by decide) q106 rfl rfl rfl (by first | trivial | exact Or.inl rfl | exact Or.inr rfl) rfl (fun h20 hB19 => ?_)
  refine aw_aload_n (pc' := 45) eX5_init_44 rfl rfl trivial ?_
  refine aw_bipush (pc' := 47) (v := 6) eX5_init_45 rfl (by decide) ?_
  refine aw_Bnew (pc' := 49) (kd := 0) (N' := 6) (x := (6, .inl (fun _ => 0))) [.inl (0, (6, .inl (fun _ => 0))), .inl (0, (6, .inl (fun _ => 0))), .inl (0, (6, .inl (fun _ => 0))), .inl (0, (6, .inl (fun _ => 0))), .inl (0, (6, .inl (fun _ => 0))), .inl (0, (6, .inl (fun _ => 0)))] hB19 eX5_init_47 rfl q156 (by decide) rfl (fun _ => rfl) (fun _ => rfl) (by decide) (by decide) (by decide) (by omega) (by omega) rfl (fun h22 hB21 => ?_)
  refine aw_BputF (pc' := 52) (ci := 5) (kf := 6) (N := 15) (ty0 := tyX5) [.int 0, .ref (u + 1 + 0), .ref (u + 1 + 1), .ref (u + 1 + 2), .ref (u + 1 + 3), .ref (u + 1 + 4), .ref (u + 1 + 5), .null, .null, .null, .int 0, .int 0, .int 0, .int 0, .null] hB21 eX5_init_49 rfl rfl rfl inX5 tyX5_ok nmX5 (by decide) q108 rfl rfl rfl (by first | trivial | exact Or.inl rfl | exact Or.inr rfl) rfl (fun h24 hB23 => ?_)
  refine aw_aload_n (pc' := 53) eX5_init_52 rfl rfl trivial ?_
  refine aw_bipush (pc' := 55) (v := 24) eX5_init_53 rfl (by decide) ?_
  refine aw_Bnew (pc' := 57) (kd := 0) (N' := 24) (x := (24, .inl (fun _ => 0))) [.inl (0, (6, .inl (fun _ => 0))), .inl (0, (6, .inl (fun _ => 0))), .inl (0, (6, .inl (fun _ => 0))), .inl (0, (6, .inl (fun _ => 0))), .inl (0, (6, .inl (fun _ => 0))), .inl (0, (6, .inl (fun _ => 0))), .inl (0, (24, .inl (fun _ => 0)))] hB23 eX5_init_55 rfl q156 (by decide) rfl (fun _ => rfl) (fun _ => rfl) (by decide) (by decide) (by decide) (by omega) (by omega) rfl (fun h26 hB25 => ?_)
  refine aw_BputF (pc' := 60) (ci := 5) (kf := 7) (N := 15) (ty0 := tyX5) [.int 0, .ref (u + 1 + 0), .ref (u + 1 + 1), .ref (u + 1 + 2), .ref (u + 1 + 3), .ref (u + 1 + 4), .ref (u + 1 + 5), .ref (u + 1 + 6), .null, .null, .int 0, .int 0, .int 0, .int 0, .null] hB25 eX5_init_57 rfl rfl rfl inX5 tyX5_ok nmX5 (by decide) q110 rfl rfl rfl (by first | trivial | exact Or.inl rfl | exact Or.inr rfl) rfl (fun h28 hB27 => ?_)
  refine aw_aload_n (pc' := 61) eX5_init_60 rfl rfl trivial ?_
  refine aw_iconst (pc' := 62) (v := 4) eX5_init_61 rfl (by decide) ?_
  refine aw_Bnew (pc' := 64) (kd := 0) (N' := 4) (x := (4, .inl (fun _ => 0))) [.inl (0, (6, .inl (fun _ => 0))), .inl (0, (6, .inl (fun _ => 0))), .inl (0, (6, .inl (fun _ => 0))), .inl (0, (6, .inl (fun _ => 0))), .inl (0, (6, .inl (fun _ => 0))), .inl (0, (6, .inl (fun _ => 0))), .inl (0, (24, .inl (fun _ => 0))), .inl (0, (4, .inl (fun _ => 0)))] hB27 eX5_init_62 rfl q156 (by decide) rfl (fun _ => rfl) (fun _ => rfl) (by decide) (by decide) (by decide) (by omega) (by omega) rfl (fun h30 hB29 => ?_)
  refine aw_dup (pc' := 65) eX5_init_64 rfl rfl ?_
  refine aw_iconst (pc' := 66) (v := 0) eX5_init_65 rfl (by decide) ?_
  refine aw_iconst (pc' := 67) (v := 1) eX5_init_66 rfl (by decide) ?_
  refine aw_Biast (pc' := 68) 7 [.inl (0, (6, .inl (fun _ => 0))), .inl (0, (6, .inl (fun _ => 0))), .inl (0, (6, .inl (fun _ => 0))), .inl (0, (6, .inl (fun _ => 0))), .inl (0, (6, .inl (fun _ => 0))), .inl (0, (6, .inl (fun _ => 0))), .inl (0, (24, .inl (fun _ => 0))), .inl (0, (4, .inl (upd (fun _ => 0) (0 : Int32).toNatClampNeg (1 : Int32))))] hB29 eX5_init_67 rfl (by decide) rfl (by unfold vp_in; decide) rfl (fun h32 hB31 => ?_)
  refine aw_dup (pc' := 69) eX5_init_68 rfl rfl ?_
  refine aw_iconst (pc' := 70) (v := 1) eX5_init_69 rfl (by decide) ?_
  refine aw_iconst (pc' := 71) (v := 1) eX5_init_70 rfl (by decide) ?_
  refine aw_Biast (pc' := 72) 7 [.inl (0, (6, .inl (fun _ => 0))), .inl (0, (6, .inl (fun _ => 0))), .inl (0, (6, .inl (fun _ => 0))), .inl (0, (6, .inl (fun _ => 0))), .inl (0, (6, .inl (fun _ => 0))), .inl (0, (6, .inl (fun _ => 0))), .inl (0, (24, .inl (fun _ => 0))), .inl (0, (4, .inl (upd (upd (fun _ => 0) (0 : Int32).toNatClampNeg (1 : Int32)) (1 : Int32).toNatClampNeg (1 : Int32))))] hB31 eX5_init_71 rfl (by decide) rfl (by unfold vp_in; decide) rfl (fun h34 hB33 => ?_)
  refine aw_dup (pc' := 73) eX5_init_72 rfl rfl ?_
  refine aw_iconst (pc' := 74) (v := 2) eX5_init_73 rfl (by decide) ?_
  refine aw_iconst (pc' := 75) (v := 1) eX5_init_74 rfl (by decide) ?_
  refine aw_Biast (pc' := 76) 7 [.inl (0, (6, .inl (fun _ => 0))), .inl (0, (6, .inl (fun _ => 0))), .inl (0, (6, .inl (fun _ => 0))), .inl (0, (6, .inl (fun _ => 0))), .inl (0, (6, .inl (fun _ => 0))), .inl (0, (6, .inl (fun _ => 0))), .inl (0, (24, .inl (fun _ => 0))), .inl (0, (4, .inl (upd (upd (upd (fun _ => 0) (0 : Int32).toNatClampNeg (1 : Int32)) (1 : Int32).toNatClampNeg (1 : Int32)) (2 : Int32).toNatClampNeg (1 : Int32))))] hB33 eX5_init_75 rfl (by decide) rfl (by unfold vp_in; decide) rfl (fun h36 hB35 => ?_)
  refine aw_dup (pc' := 77) eX5_init_76 rfl rfl ?_
  refine aw_iconst (pc' := 78) (v := 3) eX5_init_77 rfl (by decide) ?_
  refine aw_iconst (pc' := 79) (v := 1) eX5_init_78 rfl (by decide) ?_
  refine aw_Biast (pc' := 80) 7 [.inl (0, (6, .inl (fun _ => 0))), .inl (0, (6, .inl (fun _ => 0))), .inl (0, (6, .inl (fun _ => 0))), .inl (0, (6, .inl (fun _ => 0))), .inl (0, (6, .inl (fun _ => 0))), .inl (0, (6, .inl (fun _ => 0))), .inl (0, (24, .inl (fun _ => 0))), .inl (0, (4, .inl (upd (upd (upd (upd (fun _ => 0) (0 : Int32).toNatClampNeg (1 : Int32)) (1 : Int32).toNatClampNeg (1 : Int32)) (2 : Int32).toNatClampNeg (1 : Int32)) (3 : Int32).toNatClampNeg (1 : Int32))))] hB35 eX5_init_79 rfl (by decide) rfl (by unfold vp_in; decide) rfl (fun h38 hB37 => ?_)
  refine aw_BputF (pc' := 83) (ci := 5) (kf := 8) (N := 15) (ty0 := tyX5) [.int 0, .ref (u + 1 + 0), .ref (u + 1 + 1), .ref (u + 1 + 2), .ref (u + 1 + 3), .ref (u + 1 + 4), .ref (u + 1 + 5), .ref (u + 1 + 6), .ref (u + 1 + 7), .null, .int 0, .int 0, .int 0, .int 0, .null] hB37 eX5_init_80 rfl rfl rfl inX5 tyX5_ok nmX5 (by decide) q112 rfl rfl rfl (by first | trivial | exact Or.inl rfl | exact Or.inr rfl) rfl (fun h40 hB39 => ?_)
  refine aw_aload_n (pc' := 84) eX5_init_83 rfl rfl trivial ?_
  refine aw_ldcS (pc' := 86) (a := 3) (tx := "pkvwad") eX5_init_84 rfl (by decide) (by decide) ?_
  refine aw_callS (pc' := 89) (nn := 0) (c_J0_length_8abf5 (d := d - 1) (i := 0) (by omega) (by omega)) eX5_init_86 rfl ⟨q87, q90, q57⟩ q88 q89 ⟨rfl, by decide +kernel, by decide +kernel, by decide +kernel⟩ rfl ⟨by omega, by omega⟩ ⟨by omega, by decide⟩ ⟨by omega, by omega⟩ rfl (Nat.le_of_ble_eq_true rfl) (fun v41 h42 hq43 => ?_)
  obtain ⟨rfl, rfl⟩ := hq43
  dsimp only [Option.toList, List.cons_append, List.nil_append]
  refine aw_Bnew (pc' := 91) (kd := 0) (N' := 6) (x := (6, .inl (fun _ => 0))) [.inl (0, (6, .inl (fun _ => 0))), .inl (0, (6, .inl (fun _ => 0))), .inl (0, (6, .inl (fun _ => 0))), .inl (0, (6, .inl (fun _ => 0))), .inl (0, (6, .inl (fun _ => 0))), .inl (0, (6, .inl (fun _ => 0))), .inl (0, (24, .inl (fun _ => 0))), .inl (0, (4, .inl (upd (upd (upd (upd (fun _ => 0) (0 : Int32).toNatClampNeg (1 : Int32)) (1 : Int32).toNatClampNeg (1 : Int32)) (2 : Int32).toNatClampNeg (1 : Int32)) (3 : Int32).toNatClampNeg (1 : Int32)))), .inl (0, (6, .inl (fun _ => 0)))] hB39 eX5_init_89 rfl q156 (by decide) rfl (fun _ => rfl) (fun _ => rfl) (by decide) (by decide) (by decide) (by omega) (by omega) rfl (fun h45 hB44 => ?_)
  refine aw_BputF (pc' := 94) (ci := 5) (kf := 9) (N := 15) (ty0 := tyX5) [.int 0, .ref (u + 1 + 0), .ref (u + 1 + 1), .ref (u + 1 + 2), .ref (u + 1 + 3), .ref (u + 1 + 4), .ref (u + 1 + 5), .ref (u + 1 + 6), .ref (u + 1 + 7), .ref (u + 1 + 8), .int 0, .int 0, .int 0, .int 0, .null] hB44 eX5_init_91 rfl rfl rfl inX5 tyX5_ok nmX5 (by decide) q114 rfl rfl rfl (by first | trivial | exact Or.inl rfl | exact Or.inr rfl) rfl (fun h47 hB46 => ?_)
  refine aw_aload_n (pc' := 95) eX5_init_94 rfl rfl trivial ?_
  refine aw_iconst (pc' := 96) (v := 0) eX5_init_95 rfl (by decide) ?_
  refine aw_Bput (pc' := 99) (ci := 5) (kf := 10) (N := 15) (ty0 := tyX5) [.int 0, .ref (u + 1 + 0), .ref (u + 1 + 1), .ref (u + 1 + 2), .ref (u + 1 + 3), .ref (u + 1 + 4), .ref (u + 1 + 5), .ref (u + 1 + 6), .ref (u + 1 + 7), .ref (u + 1 + 8), .int 0, .int 0, .int 0, .int 0, .null] hB46 eX5_init_96 rfl rfl rfl inX5 tyX5_ok nmX5 (by decide) q115 rfl (by first | trivial | exact Or.inl rfl | exact Or.inr rfl) rfl (fun h49 hB48 => ?_)
  refine aw_aload_n (pc' := 100) eX5_init_99 rfl rfl trivial ?_
  refine aw_sipush (pc' := 103) (v := 273) eX5_init_100 rfl (by decide) ?_
  refine aw_Bput (pc' := 106) (ci := 5) (kf := 11) (N := 15) (ty0 := tyX5) [.int 0, .ref (u + 1 + 0), .ref (u + 1 + 1), .ref (u + 1 + 2), .ref (u + 1 + 3), .ref (u + 1 + 4), .ref (u + 1 + 5), .ref (u + 1 + 6), .ref (u + 1 + 7), .ref (u + 1 + 8), .int 0, .int 273, .int 0, .int 0, .null] hB48 eX5_init_103 rfl rfl rfl inX5 tyX5_ok nmX5 (by decide) q117 rfl (by first | trivial | exact Or.inl rfl | exact Or.inr rfl) rfl (fun h51 hB50 => ?_)
  refine aw_aload_n (pc' := 107) eX5_init_106 rfl rfl trivial ?_
  refine aw_iconst (pc' := 108) (v := 0) eX5_init_107 rfl (by decide) ?_
  refine aw_Bput (pc' := 111) (ci := 5) (kf := 12) (N := 15) (ty0 := tyX5) [.int 0, .ref (u + 1 + 0), .ref (u + 1 + 1), .ref (u + 1 + 2), .ref (u + 1 + 3), .ref (u + 1 + 4), .ref (u + 1 + 5), .ref (u + 1 + 6), .ref (u + 1 + 7), .ref (u + 1 + 8), .int 0, .int 273, .int 0, .int 0, .null] hB50 eX5_init_108 rfl rfl rfl inX5 tyX5_ok nmX5 (by decide) q119 rfl (by first | trivial | exact Or.inl rfl | exact Or.inr rfl) rfl (fun h53 hB52 => ?_)
  refine aw_aload_n (pc' := 112) eX5_init_111 rfl rfl trivial ?_
  refine aw_iconst (pc' := 113) (v := 0) eX5_init_112 rfl (by decide) ?_
  refine aw_Bput (pc' := 116) (ci := 5) (kf := 13) (N := 15) (ty0 := tyX5) [.int 0, .ref (u + 1 + 0), .ref (u + 1 + 1), .ref (u + 1 + 2), .ref (u + 1 + 3), .ref (u + 1 + 4), .ref (u + 1 + 5), .ref (u + 1 + 6), .ref (u + 1 + 7), .ref (u + 1 + 8), .int 0, .int 273, .int 0, .int 0, .null] hB52 eX5_init_113 rfl rfl rfl inX5 tyX5_ok nmX5 (by decide) q121 rfl (by first | trivial | exact Or.inl rfl | exact Or.inr rfl) rfl (fun h55 hB54 => ?_)
  refine aw_aload_n (pc' := 117) eX5_init_116 rfl rfl trivial ?_
  refine aw_null (pc' := 118) eX5_init_117 rfl ?_
  refine aw_Bput (pc' := 121) (ci := 5) (kf := 14) (N := 15) (ty0 := tyX5) [.int 0, .ref (u + 1 + 0), .ref (u + 1 + 1), .ref (u + 1 + 2), .ref (u + 1 + 3), .ref (u + 1 + 4), .ref (u + 1 + 5), .ref (u + 1 + 6), .ref (u + 1 + 7), .ref (u + 1 + 8), .int 0, .int 273, .int 0, .int 0, .null] hB54 eX5_init_118 rfl rfl rfl inX5 tyX5_ok nmX5 (by decide) q123 rfl (by first | trivial | exact Or.inl rfl | exact Or.inr rfl) rfl (fun h57 hB56 => ?_)
  refine aw_aload_n (pc' := 122) eX5_init_121 rfl rfl trivial ?_
  refine aw_iload_n (pc' := 123) eX5_init_122 rfl rfl ?_
  refine aw_BputF (pc' := 126) (ci := 5) (kf := 0) (N := 15) (ty0 := tyX5) [.int o, .ref (u + 1 + 0), .ref (u + 1 + 1), .ref (u + 1 + 2), .ref (u + 1 + 3), .ref (u + 1 + 4), .ref (u + 1 + 5), .ref (u + 1 + 6), .ref (u + 1 + 7), .ref (u + 1 + 8), .int 0, .int 273, .int 0, .int 0, .null] hB56 eX5_init_123 rfl rfl rfl inX5 tyX5_ok nmX5 (by decide) q97 rfl rfl rfl (by first | trivial | exact Or.inl rfl | exact Or.inr rfl) rfl (fun h59 hB58 => ?_)
  refine aw_ret (v := none) eX5_init_126 rfl (by omega) (by omega) rfl ?_
  refine ⟨rfl, ⟨hu16, hB58.2.2.1, fun k k1 k9 => ?_, trivial⟩, hB58.2.1, hB58.2.2.2.2⟩
  rcases (show k = 1 ∨ k = 2 ∨ k = 3 ∨ k = 4 ∨ k = 5 ∨ k = 6 ∨ k = 7 ∨ k = 8 ∨ k = 9 by omega) with rfl | rfl | rfl | rfl | rfl | rfl | rfl | rfl | rfl
  · exact ⟨_, hB58.2.2.2.1 0 (by decide), by rw [toS_f]; decide +kernel⟩
  · exact ⟨_, hB58.2.2.2.1 1 (by decide), by rw [toS_f]; decide +kernel⟩
  · exact ⟨_, hB58.2.2.2.1 2 (by decide), by rw [toS_f]; decide +kernel⟩
  · exact ⟨_, hB58.2.2.2.1 3 (by decide), by rw [toS_f]; decide +kernel⟩
  · exact ⟨_, hB58.2.2.2.1 4 (by decide), by rw [toS_f]; decide +kernel⟩
  · exact ⟨_, hB58.2.2.2.1 5 (by decide), by rw [toS_f]; decide +kernel⟩
  · exact ⟨_, hB58.2.2.2.1 6 (by decide), by rw [toS_f]; decide +kernel⟩
  · exact ⟨_, hB58.2.2.2.1 7 (by decide), by rw [toS_f]; decide +kernel⟩
  · exact ⟨_, hB58.2.2.2.1 8 (by decide), by rw [toS_f]; decide +kernel⟩
abbrev mX1_init : MT := (RX1, cX1_init, 2, none, true)
theorem eX1_init_0 : decode mX1_init.2.1 0 = .ok (.aload_n 0, 1) := by decide +kernel
theorem eX1_init_1 : decode mX1_init.2.1 1 = .ok (.invokespecial 3, 3) := by decide +kernel
theorem eX1_init_4 : decode mX1_init.2.1 4 = .ok (.aload_n 0, 1) := by decide +kernel
theorem eX1_init_5 : decode mX1_init.2.1 5 = .ok (.iconst 0, 1) := by decide +kernel
theorem eX1_init_6 : decode mX1_init.2.1 6 = .ok (.putfield 9, 3) := by decide +kernel
theorem eX1_init_9 : decode mX1_init.2.1 9 = .ok (.aload_n 0, 1) := by decide +kernel
theorem eX1_init_10 : decode mX1_init.2.1 10 = .ok (.iload_n 1, 1) := by decide +kernel
theorem eX1_init_11 : decode mX1_init.2.1 11 = .ok (.putfield 15, 3) := by decide +kernel
theorem eX1_init_14 : decode mX1_init.2.1 14 = .ok (.aload_n 0, 1) := by decide +kernel
theorem eX1_init_15 : decode mX1_init.2.1 15 = .ok (.iload_n 1, 1) := by decide +kernel
theorem eX1_init_16 : decode mX1_init.2.1 16 = .ok (.iconst 3, 1) := by decide +kernel
theorem eX1_init_17 : decode mX1_init.2.1 17 = .ok (.imul, 1) := by decide +kernel
theorem eX1_init_18 : decode mX1_init.2.1 18 = .ok (.newarray .int, 2) := by decide +kernel
theorem eX1_init_20 : decode mX1_init.2.1 20 = .ok (.putfield 18, 3) := by decide +kernel
theorem eX1_init_23 : decode mX1_init.2.1 23 = .ok (.return_, 1) := by decide +kernel
theorem c_X1_init {most : Nat} (hm : most ≤ 10) (hu : h.1 + 15 = u) (hu16 : 16 ≤ u) (he : h.2 u = .inr (1, [.int 0, .null, .int 0])) (hd : 1 ≤ d) : Ct l G mX1_init yX1_init d 1 30 [.ref u, .int (nI most)] h (fun r h' => r = none ∧ RAt h' u most 0 (fun _ => 0) ∧ h'.1 = h.1 + 1 ∧ ∀ a, a < u → h'.2 a = h.2 a) := by
  refine ct_of (lv := [some (.ref u), some (.int (nI most))]) (by decide +kernel) rfl (fun _ => rfl) (fun _ => rfl) (fun _ => Nat.le_of_ble_eq_true rfl) ?_
  have hB := Bl.start hu he
  refine aw_aload_n (pc' := 1) eX1_init_0 rfl rfl trivial ?_
  refine aw_objInit (pc' := 4) eX1_init_1 rfl q164 q78 q79 (by omega) (Nat.le_of_ble_eq_true rfl) ?_
  refine aw_aload_n (pc' := 5) eX1_init_4 rfl rfl trivial ?_
  refine aw_iconst (pc' := 6) (v := 0) eX1_init_5 rfl (by decide) ?_
  refine aw_Bput (pc' := 9) (ci := 1) (kf := 2) (N := 3) (ty0 := tyX1) [.int 0, .null, .int (nI 0)] hB eX1_init_6 rfl rfl rfl inX1 tyX1_ok nmX1 (by decide) q167 rfl (by first | trivial | exact Or.inl rfl | exact Or.inr rfl) rfl (fun h2 hB1 => ?_)
  refine aw_aload_n (pc' := 10) eX1_init_9 rfl rfl trivial ?_
  refine aw_iload_n (pc' := 11) eX1_init_10 rfl rfl ?_
  refine aw_BputF (pc' := 14) (ci := 1) (kf := 0) (N := 3) (ty0 := tyX1) [.int (nI most), .null, .int (nI 0)] hB1 eX1_init_11 rfl rfl rfl inX1 tyX1_ok nmX1 (by decide) q165 rfl rfl rfl (by first | trivial | exact Or.inl rfl | exact Or.inr rfl) rfl (fun h4 hB3 => ?_)
  refine aw_aload_n (pc' := 15) eX1_init_14 rfl rfl trivial ?_
  refine aw_iload_n (pc' := 16) eX1_init_15 rfl rfl ?_
  refine aw_iconst (pc' := 17) (v := 3) eX1_init_16 rfl (by decide) ?_
  refine aw_imul (pc' := 18) eX1_init_17 rfl ?_
  rw [show nI most * 3 = nI (3 * most) from by rw [show (3 : Int32) = nI 3 from rfl, pk_mul, Nat.mul_comm]]
  refine aw_Bnew (pc' := 20) (kd := 0) (N' := (3 * most)) (x := ((3 * most), .inl (fun _ => 0))) [.inl (0, ((3 * most), .inl (fun _ => 0)))] hB3 eX1_init_18 rfl q156 (by decide) rfl (fun _ => rfl) (fun _ => rfl) (n_nn (by omega)) (nI_clamp (by omega)) (by show _ * 4 ≤ _; omega) (by omega) (by omega) rfl (fun h6 hB5 => ?_)
  refine aw_BputF (pc' := 23) (ci := 1) (kf := 1) (N := 3) (ty0 := tyX1) [.int (nI most), .ref (u + 1 + 0), .int (nI 0)] hB5 eX1_init_20 rfl rfl rfl inX1 tyX1_ok nmX1 (by decide) q166 rfl rfl rfl (by first | trivial | exact Or.inl rfl | exact Or.inr rfl) rfl (fun h8 hB7 => ?_)
  refine aw_ret (v := none) eX1_init_23 rfl (by omega) (by omega) rfl ?_
  exact ⟨rfl, ⟨⟨hB7.2.2.1, hu16⟩, ⟨hB7.2.2.2.1 0 (Nat.zero_lt_one), by omega⟩⟩, hB7.2.1, hB7.2.2.2.2⟩
abbrev mX3_init : MT := (RX3, cX3_init, 1, none, true)
theorem eX3_init_0 : decode mX3_init.2.1 0 = .ok (.aload_n 0, 1) := by decide +kernel
theorem eX3_init_1 : decode mX3_init.2.1 1 = .ok (.invokespecial 3, 3) := by decide +kernel
theorem eX3_init_4 : decode mX3_init.2.1 4 = .ok (.aload_n 0, 1) := by decide +kernel
theorem eX3_init_5 : decode mX3_init.2.1 5 = .ok (.bipush 60, 2) := by decide +kernel
theorem eX3_init_7 : decode mX3_init.2.1 7 = .ok (.newarray .long, 2) := by decide +kernel
theorem eX3_init_9 : decode mX3_init.2.1 9 = .ok (.putfield 9, 3) := by decide +kernel
theorem eX3_init_12 : decode mX3_init.2.1 12 = .ok (.aload_n 0, 1) := by decide +kernel
theorem eX3_init_13 : decode mX3_init.2.1 13 = .ok (.iconst (-1), 1) := by decide +kernel
theorem eX3_init_14 : decode mX3_init.2.1 14 = .ok (.putfield 15, 3) := by decide +kernel
theorem eX3_init_17 : decode mX3_init.2.1 17 = .ok (.aload_n 0, 1) := by decide +kernel
theorem eX3_init_18 : decode mX3_init.2.1 18 = .ok (.iconst 0, 1) := by decide +kernel
theorem eX3_init_19 : decode mX3_init.2.1 19 = .ok (.putfield 19, 3) := by decide +kernel
theorem eX3_init_22 : decode mX3_init.2.1 22 = .ok (.return_, 1) := by decide +kernel
theorem c_X3_init (hu : h.1 + 15 = u) (hu16 : 16 ≤ u) (he : h.2 u = .inr (3, [.null, .int 0, .int 0])) (hd : 1 ≤ d) : Ct l G mX3_init yX3_init d 1 60 [.ref u] h (fun r h' => r = none ∧ TAt h' u (-1) 0 (fun _ => 0) ∧ h'.1 = h.1 + 1 ∧ ∀ a, a < u → h'.2 a = h.2 a) := by
  refine ct_of (lv := [some (.ref u)]) (by decide +kernel) rfl (fun _ => rfl) (fun _ => rfl) (fun _ => Nat.le_of_ble_eq_true rfl) ?_
  have hB := Bl.start hu he
  refine aw_aload_n (pc' := 1) eX3_init_0 rfl rfl trivial ?_
  refine aw_objInit (pc' := 4) eX3_init_1 rfl q235 q78 q79 (by omega) (Nat.le_of_ble_eq_true rfl) ?_
  refine aw_aload_n (pc' := 5) eX3_init_4 rfl rfl trivial ?_
  refine aw_bipush (pc' := 7) (v := 60) eX3_init_5 rfl (by decide) ?_
  refine aw_Bnew (pc' := 9) (kd := 3) (N' := 60) (x := (60, .inr (.inl (fun _ => 0)))) [.inl (3, (60, .inr (.inl (fun _ => 0))))] hB eX3_init_7 rfl q249 (by decide) rfl (fun _ => rfl) (fun _ => rfl) (by decide) (by decide) (by decide) (by omega) (by omega) rfl (fun h2 hB1 => ?_)
  refine aw_BputF (pc' := 12) (ci := 3) (kf := 0) (N := 3) (ty0 := tyX3) [.ref (u + 1 + 0), .int 0, .int 0] hB1 eX3_init_9 rfl rfl rfl inX3 tyX3_ok nmX3 (by decide) q236 rfl rfl rfl (by first | trivial | exact Or.inl rfl | exact Or.inr rfl) rfl (fun h4 hB3 => ?_)
  refine aw_aload_n (pc' := 13) eX3_init_12 rfl rfl trivial ?_
  refine aw_iconst (pc' := 14) (v := -1) eX3_init_13 rfl (by decide) ?_
  refine aw_Bput (pc' := 17) (ci := 3) (kf := 1) (N := 3) (ty0 := tyX3) [.ref (u + 1 + 0), .int (-1), .int 0] hB3 eX3_init_14 rfl rfl rfl inX3 tyX3_ok nmX3 (by decide) q238 rfl (by first | trivial | exact Or.inl rfl | exact Or.inr rfl) rfl (fun h6 hB5 => ?_)
  refine aw_aload_n (pc' := 18) eX3_init_17 rfl rfl trivial ?_
  refine aw_iconst (pc' := 19) (v := 0) eX3_init_18 rfl (by decide) ?_
  refine aw_Bput (pc' := 22) (ci := 3) (kf := 2) (N := 3) (ty0 := tyX3) [.ref (u + 1 + 0), .int (-1), .int 0] hB5 eX3_init_19 rfl rfl rfl inX3 tyX3_ok nmX3 (by decide) q240 rfl (by first | trivial | exact Or.inl rfl | exact Or.inr rfl) rfl (fun h8 hB7 => ?_)
  refine aw_ret (v := none) eX3_init_22 rfl (by omega) (by omega) rfl ?_
  exact ⟨rfl, ⟨⟨hB7.2.2.1, hu16⟩, ⟨hB7.2.2.2.1 0 (Nat.zero_lt_one), by omega⟩⟩, hB7.2.1, hB7.2.2.2.2⟩
abbrev mX4_init : MT := (RX4, cX4_init, 1, none, true)
theorem eX4_init_0 : decode mX4_init.2.1 0 = .ok (.aload_n 0, 1) := by decide +kernel
theorem eX4_init_1 : decode mX4_init.2.1 1 = .ok (.invokespecial 3, 3) := by decide +kernel
theorem eX4_init_4 : decode mX4_init.2.1 4 = .ok (.aload_n 0, 1) := by decide +kernel
theorem eX4_init_5 : decode mX4_init.2.1 5 = .ok (.bipush 20, 2) := by decide +kernel
theorem eX4_init_7 : decode mX4_init.2.1 7 = .ok (.newarray .int, 2) := by decide +kernel
theorem eX4_init_9 : decode mX4_init.2.1 9 = .ok (.putfield 9, 3) := by decide +kernel
theorem eX4_init_12 : decode mX4_init.2.1 12 = .ok (.aload_n 0, 1) := by decide +kernel
theorem eX4_init_13 : decode mX4_init.2.1 13 = .ok (.iconst 0, 1) := by decide +kernel
theorem eX4_init_14 : decode mX4_init.2.1 14 = .ok (.putfield 15, 3) := by decide +kernel
theorem eX4_init_17 : decode mX4_init.2.1 17 = .ok (.aload_n 0, 1) := by decide +kernel
theorem eX4_init_18 : decode mX4_init.2.1 18 = .ok (.iconst 0, 1) := by decide +kernel
theorem eX4_init_19 : decode mX4_init.2.1 19 = .ok (.putfield 19, 3) := by decide +kernel
theorem eX4_init_22 : decode mX4_init.2.1 22 = .ok (.aload_n 0, 1) := by decide +kernel
theorem eX4_init_23 : decode mX4_init.2.1 23 = .ok (.iconst 0, 1) := by decide +kernel
theorem eX4_init_24 : decode mX4_init.2.1 24 = .ok (.putfield 22, 3) := by decide +kernel
theorem eX4_init_27 : decode mX4_init.2.1 27 = .ok (.aload_n 0, 1) := by decide +kernel
theorem eX4_init_28 : decode mX4_init.2.1 28 = .ok (.iconst 0, 1) := by decide +kernel
theorem eX4_init_29 : decode mX4_init.2.1 29 = .ok (.putfield 25, 3) := by decide +kernel
theorem eX4_init_32 : decode mX4_init.2.1 32 = .ok (.return_, 1) := by decide +kernel
theorem c_X4_init (hu : h.1 + 15 = u) (hu16 : 16 ≤ u) (he : h.2 u = .inr (4, [.null, .int 0, .int 0, .int 0, .int 0])) (hd : 1 ≤ d) : Ct l G mX4_init yX4_init d 1 20 [.ref u] h (fun r h' => r = none ∧ VAt h' u 0 0 0 ((fun _ => 0), 0) ∧ h'.1 = h.1 + 1 ∧ ∀ a, a < u → h'.2 a = h.2 a) := by
  refine ct_of (lv := [some (.ref u)]) (by decide +kernel) rfl (fun _ => rfl) (fun _ => rfl) (fun _ => Nat.le_of_ble_eq_true rfl) ?_
  have hB := Bl.start hu he
  refine aw_aload_n (pc' := 1) eX4_init_0 rfl rfl trivial ?_
  refine aw_objInit (pc' := 4) eX4_init_1 rfl q212 q78 q79 (by omega) (Nat.le_of_ble_eq_true rfl) ?_
  refine aw_aload_n (pc' := 5) eX4_init_4 rfl rfl trivial ?_
  refine aw_bipush (pc' := 7) (v := 20) eX4_init_5 rfl (by decide) ?_
  refine aw_Bnew (pc' := 9) (kd := 0) (N' := 20) (x := (20, .inl (fun _ => 0))) [.inl (0, (20, .inl (fun _ => 0)))] hB eX4_init_7 rfl q156 (by decide) rfl (fun _ => rfl) (fun _ => rfl) (by decide) (by decide) (by decide) (by omega) (by omega) rfl (fun h2 hB1 => ?_)
  refine aw_BputF (pc' := 12) (ci := 4) (kf := 0) (N := 5) (ty0 := tyX4) [.ref (u + 1 + 0), .int 0, .int 0, .int 0, .int 0] hB1 eX4_init_9 rfl rfl rfl inX4 tyX4_ok nmX4 (by decide) q213 rfl rfl rfl (by first | trivial | exact Or.inl rfl | exact Or.inr rfl) rfl (fun h4 hB3 => ?_)
  refine aw_aload_n (pc' := 13) eX4_init_12 rfl rfl trivial ?_
  refine aw_iconst (pc' := 14) (v := 0) eX4_init_13 rfl (by decide) ?_
  refine aw_Bput (pc' := 17) (ci := 4) (kf := 1) (N := 5) (ty0 := tyX4) [.ref (u + 1 + 0), .int (nI 0), .int 0, .int 0, .int 0] hB3 eX4_init_14 rfl rfl rfl inX4 tyX4_ok nmX4 (by decide) q215 rfl (by first | trivial | exact Or.inl rfl | exact Or.inr rfl) rfl (fun h6 hB5 => ?_)
  refine aw_aload_n (pc' := 18) eX4_init_17 rfl rfl trivial ?_
  refine aw_iconst (pc' := 19) (v := 0) eX4_init_18 rfl (by decide) ?_
  refine aw_Bput (pc' := 22) (ci := 4) (kf := 2) (N := 5) (ty0 := tyX4) [.ref (u + 1 + 0), .int (nI 0), .int 0, .int 0, .int 0] hB5 eX4_init_19 rfl rfl rfl inX4 tyX4_ok nmX4 (by decide) q217 rfl (by first | trivial | exact Or.inl rfl | exact Or.inr rfl) rfl (fun h8 hB7 => ?_)
  refine aw_aload_n (pc' := 23) eX4_init_22 rfl rfl trivial ?_
  refine aw_iconst (pc' := 24) (v := 0) eX4_init_23 rfl (by decide) ?_
  refine aw_Bput (pc' := 27) (ci := 4) (kf := 3) (N := 5) (ty0 := tyX4) [.ref (u + 1 + 0), .int (nI 0), .int 0, .int 0, .int 0] hB7 eX4_init_24 rfl rfl rfl inX4 tyX4_ok nmX4 (by decide) q218 rfl (by first | trivial | exact Or.inl rfl | exact Or.inr rfl) rfl (fun h10 hB9 => ?_)
  refine aw_aload_n (pc' := 28) eX4_init_27 rfl rfl trivial ?_
  refine aw_iconst (pc' := 29) (v := 0) eX4_init_28 rfl (by decide) ?_
  refine aw_Bput (pc' := 32) (ci := 4) (kf := 4) (N := 5) (ty0 := tyX4) [.ref (u + 1 + 0), .int (nI 0), .int 0, .int 0, .int 0] hB9 eX4_init_29 rfl rfl rfl inX4 tyX4_ok nmX4 (by decide) q219 rfl (by first | trivial | exact Or.inl rfl | exact Or.inr rfl) rfl (fun h12 hB11 => ?_)
  refine aw_ret (v := none) eX4_init_32 rfl (by omega) (by omega) rfl ?_
  exact ⟨rfl, ⟨⟨hB11.2.2.1, hu16⟩, ⟨hB11.2.2.2.1 0 (Nat.zero_lt_one), by omega⟩⟩, hB11.2.1, hB11.2.2.2.2⟩
abbrev mX0_init : MT := (RX0, cX0_init, 1, none, true)
theorem eX0_init_0 : decode mX0_init.2.1 0 = .ok (.aload_n 0, 1) := by decide +kernel
theorem eX0_init_1 : decode mX0_init.2.1 1 = .ok (.invokespecial 3, 3) := by decide +kernel
theorem eX0_init_4 : decode mX0_init.2.1 4 = .ok (.aload_n 0, 1) := by decide +kernel
theorem eX0_init_5 : decode mX0_init.2.1 5 = .ok (.bipush 100, 2) := by decide +kernel
theorem eX0_init_7 : decode mX0_init.2.1 7 = .ok (.newarray .byte, 2) := by decide +kernel
theorem eX0_init_9 : decode mX0_init.2.1 9 = .ok (.putfield 9, 3) := by decide +kernel
theorem eX0_init_12 : decode mX0_init.2.1 12 = .ok (.aload_n 0, 1) := by decide +kernel
theorem eX0_init_13 : decode mX0_init.2.1 13 = .ok (.bipush 100, 2) := by decide +kernel
theorem eX0_init_15 : decode mX0_init.2.1 15 = .ok (.newarray .int, 2) := by decide +kernel
theorem eX0_init_17 : decode mX0_init.2.1 17 = .ok (.putfield 15, 3) := by decide +kernel
theorem eX0_init_20 : decode mX0_init.2.1 20 = .ok (.aload_n 0, 1) := by decide +kernel
theorem eX0_init_21 : decode mX0_init.2.1 21 = .ok (.iconst 0, 1) := by decide +kernel
theorem eX0_init_22 : decode mX0_init.2.1 22 = .ok (.putfield 19, 3) := by decide +kernel
theorem eX0_init_25 : decode mX0_init.2.1 25 = .ok (.aload_n 0, 1) := by decide +kernel
theorem eX0_init_26 : decode mX0_init.2.1 26 = .ok (.iconst 0, 1) := by decide +kernel
theorem eX0_init_27 : decode mX0_init.2.1 27 = .ok (.putfield 23, 3) := by decide +kernel
theorem eX0_init_30 : decode mX0_init.2.1 30 = .ok (.aload_n 0, 1) := by decide +kernel
theorem eX0_init_31 : decode mX0_init.2.1 31 = .ok (.iconst 1, 1) := by decide +kernel
theorem eX0_init_32 : decode mX0_init.2.1 32 = .ok (.putfield 26, 3) := by decide +kernel
theorem eX0_init_35 : decode mX0_init.2.1 35 = .ok (.aload_n 0, 1) := by decide +kernel
theorem eX0_init_36 : decode mX0_init.2.1 36 = .ok (.iconst 0, 1) := by decide +kernel
theorem eX0_init_37 : decode mX0_init.2.1 37 = .ok (.putfield 30, 3) := by decide +kernel
theorem eX0_init_40 : decode mX0_init.2.1 40 = .ok (.aload_n 0, 1) := by decide +kernel
theorem eX0_init_41 : decode mX0_init.2.1 41 = .ok (.bipush 30, 2) := by decide +kernel
theorem eX0_init_43 : decode mX0_init.2.1 43 = .ok (.putfield 33, 3) := by decide +kernel
theorem eX0_init_46 : decode mX0_init.2.1 46 = .ok (.return_, 1) := by decide +kernel
theorem c_X0_init (hu : h.1 + 15 = u) (hu16 : 16 ≤ u) (he : h.2 u = .inr (0, [.null, .null, .int 0, .int 0, .int 0, .int 0, .int 0])) (hd : 1 ≤ d) : Ct l G mX0_init yX0_init d 2 200 [.ref u] h (fun r h' => r = none ∧ RdAt h' u 0 (fun _ => 0) 0 true [] 30 ∧ h'.1 = h.1 + 2 ∧ ∀ a, a < u → h'.2 a = h.2 a) := by
  refine ct_of (lv := [some (.ref u)]) (by decide +kernel) rfl (fun _ => rfl) (fun _ => rfl) (fun _ => Nat.le_of_ble_eq_true rfl) ?_
  have hB := Bl.start hu he
  refine aw_aload_n (pc' := 1) eX0_init_0 rfl rfl trivial ?_
  refine aw_objInit (pc' := 4) eX0_init_1 rfl q181 q78 q79 (by omega) (Nat.le_of_ble_eq_true rfl) ?_
  refine aw_aload_n (pc' := 5) eX0_init_4 rfl rfl trivial ?_
  refine aw_bipush (pc' := 7) (v := 100) eX0_init_5 rfl (by decide) ?_
  refine aw_Bnew (pc' := 9) (kd := 1) (N' := 100) (x := (100, .inl (fun _ => 0))) [.inl (1, (100, .inl (fun _ => 0)))] hB eX0_init_7 rfl q157 (by decide) rfl (fun _ => rfl) (fun _ => rfl) (by decide) (by decide) (by decide) (by omega) (by omega) rfl (fun h2 hB1 => ?_)
  refine aw_BputF (pc' := 12) (ci := 0) (kf := 0) (N := 7) (ty0 := tyX0) [.ref (u + 1 + 0), .null, .int 0, .int 0, .int 0, .int 0, .int 0] hB1 eX0_init_9 rfl rfl rfl inX0 tyX0_ok nmX0 (by decide) q182 rfl rfl rfl (by first | trivial | exact Or.inl rfl | exact Or.inr rfl) rfl (fun h4 hB3 => ?_)
  refine aw_aload_n (pc' := 13) eX0_init_12 rfl rfl trivial ?_
  refine aw_bipush (pc' := 15) (v := 100) eX0_init_13 rfl (by decide) ?_
  refine aw_Bnew (pc' := 17) (kd := 0) (N' := 100) (x := (100, .inl (fun _ => 0))) [.inl (1, (100, .inl (fun _ => 0))), .inl (0, (100, .inl (fun _ => 0)))] hB3 eX0_init_15 rfl q156 (by decide) rfl (fun _ => rfl) (fun _ => rfl) (by decide) (by decide) (by decide) (by omega) (by omega) rfl (fun h6 hB5 => ?_)
  refine aw_BputF (pc' := 20) (ci := 0) (kf := 1) (N := 7) (ty0 := tyX0) [.ref (u + 1 + 0), .ref (u + 1 + 1), .int 0, .int 0, .int 0, .int 0, .int 0] hB5 eX0_init_17 rfl rfl rfl inX0 tyX0_ok nmX0 (by decide) q183 rfl rfl rfl (by first | trivial | exact Or.inl rfl | exact Or.inr rfl) rfl (fun h8 hB7 => ?_)
  refine aw_aload_n (pc' := 21) eX0_init_20 rfl rfl trivial ?_
  refine aw_iconst (pc' := 22) (v := 0) eX0_init_21 rfl (by decide) ?_
  refine aw_Bput (pc' := 25) (ci := 0) (kf := 2) (N := 7) (ty0 := tyX0) [.ref (u + 1 + 0), .ref (u + 1 + 1), .int (nI 0), .int 0, .int 0, .int 0, .int 0] hB7 eX0_init_22 rfl rfl rfl inX0 tyX0_ok nmX0 (by decide) q184 rfl (by first | trivial | exact Or.inl rfl | exact Or.inr rfl) rfl (fun h10 hB9 => ?_)
  refine aw_aload_n (pc' := 26) eX0_init_25 rfl rfl trivial ?_
  refine aw_iconst (pc' := 27) (v := 0) eX0_init_26 rfl (by decide) ?_
  refine aw_Bput (pc' := 30) (ci := 0) (kf := 3) (N := 7) (ty0 := tyX0) [.ref (u + 1 + 0), .ref (u + 1 + 1), .int (nI 0), .int (nI 0), .int 0, .int 0, .int 0] hB9 eX0_init_27 rfl rfl rfl inX0 tyX0_ok nmX0 (by decide) q186 rfl (by first | trivial | exact Or.inl rfl | exact Or.inr rfl) rfl (fun h12 hB11 => ?_)
  refine aw_aload_n (pc' := 31) eX0_init_30 rfl rfl trivial ?_
  refine aw_iconst (pc' := 32) (v := 1) eX0_init_31 rfl (by decide) ?_
  refine aw_Bput (pc' := 35) (ci := 0) (kf := 4) (N := 7) (ty0 := tyX0) [.ref (u + 1 + 0), .ref (u + 1 + 1), .int (nI 0), .int (nI 0), .int (zb true), .int 0, .int 0] hB11 eX0_init_32 rfl rfl rfl inX0 tyX0_ok nmX0 (by decide) q187 rfl (by first | trivial | exact Or.inl rfl | exact Or.inr rfl) rfl (fun h14 hB13 => ?_)
  refine aw_aload_n (pc' := 36) eX0_init_35 rfl rfl trivial ?_
  refine aw_iconst (pc' := 37) (v := 0) eX0_init_36 rfl (by decide) ?_
  refine aw_Bput (pc' := 40) (ci := 0) (kf := 5) (N := 7) (ty0 := tyX0) [.ref (u + 1 + 0), .ref (u + 1 + 1), .int (nI 0), .int (nI 0), .int (zb true), .int (nI ([] : List Int32).length), .int 0] hB13 eX0_init_37 rfl rfl rfl inX0 tyX0_ok nmX0 (by decide) q188 rfl (by first | trivial | exact Or.inl rfl | exact Or.inr rfl) rfl (fun h16 hB15 => ?_)
  refine aw_aload_n (pc' := 41) eX0_init_40 rfl rfl trivial ?_
  refine aw_bipush (pc' := 43) (v := 30) eX0_init_41 rfl (by decide) ?_
  refine aw_Bput (pc' := 46) (ci := 0) (kf := 6) (N := 7) (ty0 := tyX0) [.ref (u + 1 + 0), .ref (u + 1 + 1), .int (nI 0), .int (nI 0), .int (zb true), .int (nI ([] : List Int32).length), .int 30] hB15 eX0_init_43 rfl rfl rfl inX0 tyX0_ok nmX0 (by decide) q189 rfl (by first | trivial | exact Or.inl rfl | exact Or.inr rfl) rfl (fun h18 hB17 => ?_)
  refine aw_ret (v := none) eX0_init_46 rfl (by omega) (by omega) rfl ?_
  exact ⟨rfl, ⟨⟨hB17.2.2.1, hu16⟩, ⟨_, ⟨hB17.2.2.2.1 0 (by decide), by omega⟩, fun i hi => absurd hi (Nat.not_lt_zero i)⟩, _, ⟨hB17.2.2.2.1 1 (by decide), by omega⟩, fun i hi => absurd hi (Nat.not_lt_zero i)⟩, hB17.2.1, hB17.2.2.2.2⟩
end C23
