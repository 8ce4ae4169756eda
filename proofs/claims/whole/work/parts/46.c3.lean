/-! the class: how heavy one lies -/
section C3
variable {F : FT} {l : Launch} {G : GT} {w : Nat} {d n m t : Nat} {g : Nat → Int32} {o : Int32} {h : Hp} {Q : Option Value → Hp → Prop}

abbrev mX5_load : MT := (RX5, cX5_load, 3, (some .int), false)
theorem eX5_load_0 : decode mX5_load.2.1 0 = .ok (.aload_n 0, 1) := by decide +kernel
theorem eX5_load_1 : decode mX5_load.2.1 1 = .ok (.getfield 18, 3) := by decide +kernel
theorem eX5_load_4 : decode mX5_load.2.1 4 = .ok (.iload_n 1, 1) := by decide +kernel
theorem eX5_load_5 : decode mX5_load.2.1 5 = .ok (.iaload, 1) := by decide +kernel
theorem eX5_load_6 : decode mX5_load.2.1 6 = .ok (.istore_n 2, 1) := by decide +kernel
theorem eX5_load_7 : decode mX5_load.2.1 7 = .ok (.aload_n 0, 1) := by decide +kernel
theorem eX5_load_8 : decode mX5_load.2.1 8 = .ok (.getfield 62, 3) := by decide +kernel
theorem eX5_load_11 : decode mX5_load.2.1 11 = .ok (.ifnull 22, 3) := by decide +kernel
theorem eX5_load_14 : decode mX5_load.2.1 14 = .ok (.aload_n 0, 1) := by decide +kernel
theorem eX5_load_15 : decode mX5_load.2.1 15 = .ok (.iload_n 1, 1) := by decide +kernel
theorem eX5_load_16 : decode mX5_load.2.1 16 = .ok (.invokevirtual 82, 3) := by decide +kernel
theorem eX5_load_19 : decode mX5_load.2.1 19 = .ok (.iload_n 2, 1) := by decide +kernel
theorem eX5_load_20 : decode mX5_load.2.1 20 = .ok (.aload_n 0, 1) := by decide +kernel
theorem eX5_load_21 : decode mX5_load.2.1 21 = .ok (.getfield 62, 3) := by decide +kernel
theorem eX5_load_24 : decode mX5_load.2.1 24 = .ok (.aload_n 0, 1) := by decide +kernel
theorem eX5_load_25 : decode mX5_load.2.1 25 = .ok (.getfield 46, 3) := by decide +kernel
theorem eX5_load_28 : decode mX5_load.2.1 28 = .ok (.invokevirtual 86, 3) := by decide +kernel
theorem eX5_load_31 : decode mX5_load.2.1 31 = .ok (.iadd, 1) := by decide +kernel
theorem eX5_load_32 : decode mX5_load.2.1 32 = .ok (.istore_n 2, 1) := by decide +kernel
theorem eX5_load_33 : decode mX5_load.2.1 33 = .ok (.aload_n 0, 1) := by decide +kernel
theorem eX5_load_34 : decode mX5_load.2.1 34 = .ok (.getfield 9, 3) := by decide +kernel
theorem eX5_load_37 : decode mX5_load.2.1 37 = .ok (.iload_n 1, 1) := by decide +kernel
theorem eX5_load_38 : decode mX5_load.2.1 38 = .ok (.iaload, 1) := by decide +kernel
theorem eX5_load_39 : decode mX5_load.2.1 39 = .ok (.tableswitch 126 1 6 #[37, 46, 50, 58, 86, 102], 37) := by decide +kernel
theorem eX5_load_76 : decode mX5_load.2.1 76 = .ok (.iload_n 2, 1) := by decide +kernel
theorem eX5_load_77 : decode mX5_load.2.1 77 = .ok (.aload_n 0, 1) := by decide +kernel
theorem eX5_load_78 : decode mX5_load.2.1 78 = .ok (.getfield 15, 3) := by decide +kernel
theorem eX5_load_81 : decode mX5_load.2.1 81 = .ok (.iload_n 1, 1) := by decide +kernel
theorem eX5_load_82 : decode mX5_load.2.1 82 = .ok (.iaload, 1) := by decide +kernel
theorem eX5_load_83 : decode mX5_load.2.1 83 = .ok (.iadd, 1) := by decide +kernel
theorem eX5_load_84 : decode mX5_load.2.1 84 = .ok (.ireturn, 1) := by decide +kernel
theorem eX5_load_85 : decode mX5_load.2.1 85 = .ok (.iload_n 2, 1) := by decide +kernel
theorem eX5_load_86 : decode mX5_load.2.1 86 = .ok (.iconst 2, 1) := by decide +kernel
theorem eX5_load_87 : decode mX5_load.2.1 87 = .ok (.idiv, 1) := by decide +kernel
theorem eX5_load_88 : decode mX5_load.2.1 88 = .ok (.ireturn, 1) := by decide +kernel
theorem eX5_load_89 : decode mX5_load.2.1 89 = .ok (.iload_n 2, 1) := by decide +kernel
theorem eX5_load_90 : decode mX5_load.2.1 90 = .ok (.aload_n 0, 1) := by decide +kernel
theorem eX5_load_91 : decode mX5_load.2.1 91 = .ok (.iload_n 1, 1) := by decide +kernel
theorem eX5_load_92 : decode mX5_load.2.1 92 = .ok (.invokevirtual 90, 3) := by decide +kernel
theorem eX5_load_95 : decode mX5_load.2.1 95 = .ok (.iadd, 1) := by decide +kernel
theorem eX5_load_96 : decode mX5_load.2.1 96 = .ok (.ireturn, 1) := by decide +kernel
theorem eX5_load_97 : decode mX5_load.2.1 97 = .ok (.aload_n 0, 1) := by decide +kernel
theorem eX5_load_98 : decode mX5_load.2.1 98 = .ok (.getfield 24, 3) := by decide +kernel
theorem eX5_load_101 : decode mX5_load.2.1 101 = .ok (.iload_n 1, 1) := by decide +kernel
theorem eX5_load_102 : decode mX5_load.2.1 102 = .ok (.iaload, 1) := by decide +kernel
theorem eX5_load_103 : decode mX5_load.2.1 103 = .ok (.aload_n 0, 1) := by decide +kernel
theorem eX5_load_104 : decode mX5_load.2.1 104 = .ok (.getfield 15, 3) := by decide +kernel
theorem eX5_load_107 : decode mX5_load.2.1 107 = .ok (.iload_n 1, 1) := by decide +kernel
theorem eX5_load_108 : decode mX5_load.2.1 108 = .ok (.iaload, 1) := by decide +kernel
theorem eX5_load_109 : decode mX5_load.2.1 109 = .ok (.if_icmp .ge 7, 3) := by decide +kernel
theorem eX5_load_112 : decode mX5_load.2.1 112 = .ok (.iconst 0, 1) := by decide +kernel
theorem eX5_load_113 : decode mX5_load.2.1 113 = .ok (.goto 11, 3) := by decide +kernel
theorem eX5_load_116 : decode mX5_load.2.1 116 = .ok (.iload_n 2, 1) := by decide +kernel
theorem eX5_load_117 : decode mX5_load.2.1 117 = .ok (.aload_n 0, 1) := by decide +kernel
theorem eX5_load_118 : decode mX5_load.2.1 118 = .ok (.getfield 15, 3) := by decide +kernel
theorem eX5_load_121 : decode mX5_load.2.1 121 = .ok (.iload_n 1, 1) := by decide +kernel
theorem eX5_load_122 : decode mX5_load.2.1 122 = .ok (.iaload, 1) := by decide +kernel
theorem eX5_load_123 : decode mX5_load.2.1 123 = .ok (.iadd, 1) := by decide +kernel
theorem eX5_load_124 : decode mX5_load.2.1 124 = .ok (.ireturn, 1) := by decide +kernel
theorem eX5_load_125 : decode mX5_load.2.1 125 = .ok (.iload_n 2, 1) := by decide +kernel
theorem eX5_load_126 : decode mX5_load.2.1 126 = .ok (.iconst 2, 1) := by decide +kernel
theorem eX5_load_127 : decode mX5_load.2.1 127 = .ok (.idiv, 1) := by decide +kernel
theorem eX5_load_128 : decode mX5_load.2.1 128 = .ok (.aload_n 0, 1) := by decide +kernel
theorem eX5_load_129 : decode mX5_load.2.1 129 = .ok (.getfield 24, 3) := by decide +kernel
theorem eX5_load_132 : decode mX5_load.2.1 132 = .ok (.iload_n 1, 1) := by decide +kernel
theorem eX5_load_133 : decode mX5_load.2.1 133 = .ok (.iaload, 1) := by decide +kernel
theorem eX5_load_134 : decode mX5_load.2.1 134 = .ok (.bipush 9, 2) := by decide +kernel
theorem eX5_load_136 : decode mX5_load.2.1 136 = .ok (.invokestatic 93, 3) := by decide +kernel
theorem eX5_load_139 : decode mX5_load.2.1 139 = .ok (.iadd, 1) := by decide +kernel
theorem eX5_load_140 : decode mX5_load.2.1 140 = .ok (.ireturn, 1) := by decide +kernel
theorem eX5_load_141 : decode mX5_load.2.1 141 = .ok (.iload_n 2, 1) := by decide +kernel
theorem eX5_load_142 : decode mX5_load.2.1 142 = .ok (.aload_n 0, 1) := by decide +kernel
theorem eX5_load_143 : decode mX5_load.2.1 143 = .ok (.iload_n 1, 1) := by decide +kernel
theorem eX5_load_144 : decode mX5_load.2.1 144 = .ok (.invokevirtual 90, 3) := by decide +kernel
theorem eX5_load_147 : decode mX5_load.2.1 147 = .ok (.iadd, 1) := by decide +kernel
theorem eX5_load_148 : decode mX5_load.2.1 148 = .ok (.aload_n 0, 1) := by decide +kernel
theorem eX5_load_149 : decode mX5_load.2.1 149 = .ok (.getfield 30, 3) := by decide +kernel
theorem eX5_load_152 : decode mX5_load.2.1 152 = .ok (.iload_n 1, 1) := by decide +kernel
theorem eX5_load_153 : decode mX5_load.2.1 153 = .ok (.iconst 4, 1) := by decide +kernel
theorem eX5_load_154 : decode mX5_load.2.1 154 = .ok (.imul, 1) := by decide +kernel
theorem eX5_load_155 : decode mX5_load.2.1 155 = .ok (.aload_n 0, 1) := by decide +kernel
theorem eX5_load_156 : decode mX5_load.2.1 156 = .ok (.getfield 59, 3) := by decide +kernel
theorem eX5_load_159 : decode mX5_load.2.1 159 = .ok (.iconst 4, 1) := by decide +kernel
theorem eX5_load_160 : decode mX5_load.2.1 160 = .ok (.irem, 1) := by decide +kernel
theorem eX5_load_161 : decode mX5_load.2.1 161 = .ok (.iadd, 1) := by decide +kernel
theorem eX5_load_162 : decode mX5_load.2.1 162 = .ok (.iaload, 1) := by decide +kernel
theorem eX5_load_163 : decode mX5_load.2.1 163 = .ok (.iadd, 1) := by decide +kernel
theorem eX5_load_164 : decode mX5_load.2.1 164 = .ok (.ireturn, 1) := by decide +kernel
theorem eX5_load_165 : decode mX5_load.2.1 165 = .ok (.iload_n 2, 1) := by decide +kernel
theorem eX5_load_166 : decode mX5_load.2.1 166 = .ok (.ireturn, 1) := by decide +kernel
theorem tail_X5_load (hW : WF F h w g o) (hg : gOk g m t) {i : Nat} (hi : i < 6) {s : Int32} (hd : 2 ≤ d) (hQ : Q (some (.int (sLoad s g m t i))) h) : AW l G mX5_load d 0 0 Q 0 0 h [some (.ref w), some (.int (nI i)), some (.int s)] [] 33 := by
  have hgg := hg
  obtain ⟨hm, hm6, ht, ht2, hgq⟩ := hgg
  have e4 : nI t - nI t / 4 * 4 = nI (t % 4) := pk_rem (d := 4) (by omega) (by omega) (by omega)
  refine aw_aload_n (pc' := 34) eX5_load_33 rfl rfl trivial ?_
  refine aw_Fref (pc' := 37) (kf := 1) hW eX5_load_34 rfl (by decide) q98 ?_
  refine aw_iload_n (pc' := 38) eX5_load_37 rfl rfl ?_
  refine aw_Fld (pc' := 39) 1 0 i hW eX5_load_38 rfl (by decide) rfl (show vp_in _ 6 from vp_in_nI (by omega) (by omega)) (nI_clamp (by omega)) ?_
  dsimp only [Nat.add_zero]
  refine aw_tsw (v := 1) (tgt := 76) eX5_load_39 (by decide) (by decide) rfl (by decide) (fun c_39 => ?_) (fun n_39_0 => ?_)
  · refine aw_iload_n (pc' := 77) eX5_load_76 rfl rfl ?_
    refine aw_aload_n (pc' := 78) eX5_load_77 rfl rfl trivial ?_
    refine aw_Fref (pc' := 81) (kf := 2) hW eX5_load_78 rfl (by decide) q100 ?_
    refine aw_iload_n (pc' := 82) eX5_load_81 rfl rfl ?_
    refine aw_Fld (pc' := 83) 2 1 i hW eX5_load_82 rfl (by decide) rfl (show vp_in _ 6 from vp_in_nI (by omega) (by omega)) (nI_clamp (by omega)) ?_
    refine aw_iadd (pc' := 84) eX5_load_83 rfl ?_
    refine aw_ret (v := some (.int _)) eX5_load_84 ⟨rfl, rfl⟩ (by omega) (by omega) rfl ?_
    rw [sLoad, if_pos c_39] at hQ
    exact hQ
  refine aw_tsw (v := 2) (tgt := 85) eX5_load_39 (by decide) (by decide) rfl (by decide) (fun c_39 => ?_) (fun n_39_1 => ?_)
  · refine aw_iload_n (pc' := 86) eX5_load_85 rfl rfl ?_
    refine aw_iconst (pc' := 87) (v := 2) eX5_load_86 rfl (by decide) ?_
    refine aw_idiv (pc' := 88) eX5_load_87 rfl (by decide) ?_
    refine aw_ret (v := some (.int _)) eX5_load_88 ⟨rfl, rfl⟩ (by omega) (by omega) rfl ?_
    rw [sLoad, if_neg n_39_0, if_pos c_39] at hQ
    exact hQ
  refine aw_tsw (v := 3) (tgt := 89) eX5_load_39 (by decide) (by decide) rfl (by decide) (fun c_39 => ?_) (fun n_39_2 => ?_)
  · refine aw_iload_n (pc' := 90) eX5_load_89 rfl rfl ?_
    refine aw_aload_n (pc' := 91) eX5_load_90 rfl rfl trivial ?_
    refine aw_iload_n (pc' := 92) eX5_load_91 rfl rfl ?_
    refine aw_callv (pc' := 95) (nn := 1) (c_X5_twinsShare (d := d - 1) hW hm hm6 hi (by omega)) eX5_load_92 rfl ⟨q321, q324, q56⟩ q323 q1 ⟨rfl, by decide +kernel, by decide +kernel, by decide +kernel⟩ rfl hW.ob rfl ⟨by omega, by decide⟩ ⟨by omega, by omega⟩ rfl (Nat.le_of_ble_eq_true rfl) (fun v1 h2 hq3 => ?_)
    obtain ⟨rfl, rfl⟩ := hq3
    dsimp only [Option.toList, List.cons_append, List.nil_append]
    refine aw_iadd (pc' := 96) eX5_load_95 rfl ?_
    refine aw_ret (v := some (.int _)) eX5_load_96 ⟨rfl, rfl⟩ (by omega) (by omega) rfl ?_
    rw [sLoad, if_neg n_39_0, if_neg n_39_1, if_pos c_39] at hQ
    exact hQ
  refine aw_tsw (v := 4) (tgt := 97) eX5_load_39 (by decide) (by decide) rfl (by decide) (fun c_39 => ?_) (fun n_39_3 => ?_)
  · refine aw_aload_n (pc' := 98) eX5_load_97 rfl rfl trivial ?_
    refine aw_Fref (pc' := 101) (kf := 5) hW eX5_load_98 rfl (by decide) q106 ?_
    refine aw_iload_n (pc' := 102) eX5_load_101 rfl rfl ?_
    refine aw_Fld (pc' := 103) 5 4 i hW eX5_load_102 rfl (by decide) rfl (show vp_in _ 6 from vp_in_nI (by omega) (by omega)) (nI_clamp (by omega)) ?_
    refine aw_aload_n (pc' := 104) eX5_load_103 rfl rfl trivial ?_
    refine aw_Fref (pc' := 107) (kf := 2) hW eX5_load_104 rfl (by decide) q100 ?_
    refine aw_iload_n (pc' := 108) eX5_load_107 rfl rfl ?_
    refine aw_Fld (pc' := 109) 2 1 i hW eX5_load_108 rfl (by decide) rfl (show vp_in _ 6 from vp_in_nI (by omega) (by omega)) (nI_clamp (by omega)) ?_
    refine aw_icmp_ge (pc' := 112) (tgt := 116) eX5_load_109 rfl (by decide) (fun c_109 => ?_) (fun c_109 => ?_)
    · refine aw_iload_n (pc' := 117) eX5_load_116 rfl rfl ?_
      refine aw_aload_n (pc' := 118) eX5_load_117 rfl rfl trivial ?_
      refine aw_Fref (pc' := 121) (kf := 2) hW eX5_load_118 rfl (by decide) q100 ?_
      refine aw_iload_n (pc' := 122) eX5_load_121 rfl rfl ?_
      refine aw_Fld (pc' := 123) 2 1 i hW eX5_load_122 rfl (by decide) rfl (show vp_in _ 6 from vp_in_nI (by omega) (by omega)) (nI_clamp (by omega)) ?_
      refine aw_iadd (pc' := 124) eX5_load_123 rfl ?_
      refine aw_ret (v := some (.int _)) eX5_load_124 ⟨rfl, rfl⟩ (by omega) (by omega) rfl ?_
      rw [sLoad, if_neg n_39_0, if_neg n_39_1, if_neg n_39_2, if_pos c_39, if_neg (Int32.not_lt.mpr c_109)] at hQ
      exact hQ
    · refine aw_iconst (pc' := 113) (v := 0) eX5_load_112 rfl (by decide) ?_
      refine aw_goto eX5_load_113 (by decide) (tgt := 124) ?_
      refine aw_ret (v := some (.int _)) eX5_load_124 ⟨rfl, rfl⟩ (by omega) (by omega) rfl ?_
      rw [sLoad, if_neg n_39_0, if_neg n_39_1, if_neg n_39_2, if_pos c_39, if_pos (Int32.not_le.mp c_109)] at hQ
      exact hQ
  refine aw_tsw (v := 5) (tgt := 125) eX5_load_39 (by decide) (by decide) rfl (by decide) (fun c_39 => ?_) (fun n_39_4 => ?_)
  · refine aw_iload_n (pc' := 126) eX5_load_125 rfl rfl ?_
    refine aw_iconst (pc' := 127) (v := 2) eX5_load_126 rfl (by decide) ?_
    refine aw_idiv (pc' := 128) eX5_load_127 rfl (by decide) ?_
    refine aw_aload_n (pc' := 129) eX5_load_128 rfl rfl trivial ?_
    refine aw_Fref (pc' := 132) (kf := 5) hW eX5_load_129 rfl (by decide) q106 ?_
    refine aw_iload_n (pc' := 133) eX5_load_132 rfl rfl ?_
    refine aw_Fld (pc' := 134) 5 4 i hW eX5_load_133 rfl (by decide) rfl (show vp_in _ 6 from vp_in_nI (by omega) (by omega)) (nI_clamp (by omega)) ?_
    refine aw_bipush (pc' := 136) (v := 9) eX5_load_134 rfl (by decide) ?_
    refine aw_mmin (pc' := 139) eX5_load_136 rfl q325 q326 q63 q327 (by omega) ⟨by omega, by omega⟩ (Nat.le_of_ble_eq_true rfl) ?_
    refine aw_iadd (pc' := 140) eX5_load_139 rfl ?_
    refine aw_ret (v := some (.int _)) eX5_load_140 ⟨rfl, rfl⟩ (by omega) (by omega) rfl ?_
    rw [sLoad, if_neg n_39_0, if_neg n_39_1, if_neg n_39_2, if_neg n_39_3, if_pos c_39] at hQ
    rw [min9]
    exact hQ
  refine aw_tsw (v := 6) (tgt := 141) eX5_load_39 (by decide) (by decide) rfl (by decide) (fun c_39 => ?_) (fun n_39_5 => ?_)
  · refine aw_iload_n (pc' := 142) eX5_load_141 rfl rfl ?_
    refine aw_aload_n (pc' := 143) eX5_load_142 rfl rfl trivial ?_
    refine aw_iload_n (pc' := 144) eX5_load_143 rfl rfl ?_
    refine aw_callv (pc' := 147) (nn := 1) (c_X5_twinsShare (d := d - 1) hW hm hm6 hi (by omega)) eX5_load_144 rfl ⟨q321, q324, q56⟩ q323 q1 ⟨rfl, by decide +kernel, by decide +kernel, by decide +kernel⟩ rfl hW.ob rfl ⟨by omega, by decide⟩ ⟨by omega, by omega⟩ rfl (Nat.le_of_ble_eq_true rfl) (fun v4 h5 hq6 => ?_)
    obtain ⟨rfl, rfl⟩ := hq6
    dsimp only [Option.toList, List.cons_append, List.nil_append]
    refine aw_iadd (pc' := 148) eX5_load_147 rfl ?_
    refine aw_aload_n (pc' := 149) eX5_load_148 rfl rfl trivial ?_
    refine aw_Fref (pc' := 152) (kf := 7) hW eX5_load_149 rfl (by decide) q110 ?_
    refine aw_iload_n (pc' := 153) eX5_load_152 rfl rfl ?_
    refine aw_iconst (pc' := 154) (v := 4) eX5_load_153 rfl (by decide) ?_
    refine aw_imul (pc' := 155) eX5_load_154 rfl ?_
    refine aw_aload_n (pc' := 156) eX5_load_155 rfl rfl trivial ?_
    refine aw_Fint (pc' := 159) (kf := 13) hW eX5_load_156 rfl (by decide) q121 ?_
    refine aw_iconst (pc' := 160) (v := 4) eX5_load_159 rfl (by decide) ?_
    refine aw_irem (pc' := 161) eX5_load_160 rfl (by decide) ?_
    rw [gsc13, ht, e4]
    have hx7 := ixr (i := i) (c := t % 4) hi (by omega)
    refine aw_iadd (pc' := 162) eX5_load_161 rfl ?_
    refine aw_Fld7 (pc' := 163) i (t % 4) hW eX5_load_162 rfl (by omega) hx7.2 hx7.1 ?_
    refine aw_iadd (pc' := 164) eX5_load_163 rfl ?_
    refine aw_ret (v := some (.int _)) eX5_load_164 ⟨rfl, rfl⟩ (by omega) (by omega) rfl ?_
    rw [sLoad, if_neg n_39_0, if_neg n_39_1, if_neg n_39_2, if_neg n_39_3, if_neg n_39_4, if_pos c_39] at hQ
    exact hQ
  refine aw_tswo (tgt := 165) eX5_load_39 (by have g0 := zne n_39_0 (show ((1 : Int32)).toInt = 1 by decide); have g1 := zne n_39_1 (show ((2 : Int32)).toInt = 2 by decide); have g2 := zne n_39_2 (show ((3 : Int32)).toInt = 3 by decide); have g3 := zne n_39_3 (show ((4 : Int32)).toInt = 4 by decide); have g4 := zne n_39_4 (show ((5 : Int32)).toInt = 5 by decide); have g5 := zne n_39_5 (show ((6 : Int32)).toInt = 6 by decide); omega) (by decide) ?_
  refine aw_iload_n (pc' := 166) eX5_load_165 rfl rfl ?_
  refine aw_ret (v := some (.int _)) eX5_load_166 ⟨rfl, rfl⟩ (by omega) (by omega) rfl ?_
  rw [sLoad, if_neg n_39_0, if_neg n_39_1, if_neg n_39_2, if_neg n_39_3, if_neg n_39_4, if_neg n_39_5] at hQ
  exact hQ
theorem no_X5_load {L : Nat → Int32} (hW : WG h w g o L .null) {i : Nat} (hi : i < 6) (hT : AW l G mX5_load d 0 0 Q 0 0 h [some (.ref w), some (.int (nI i)), some (.int (g (10 * i + 2)))] [] 33) : AW l G mX5_load d 0 0 Q 0 0 h [some (.ref w), some (.int (nI i)), none] [] 0 := by
  refine aw_aload_n (pc' := 1) eX5_load_0 rfl rfl trivial ?_
  refine aw_Wref (pc' := 4) (kf := 3) hW eX5_load_1 rfl (by decide) q102 ?_
  refine aw_iload_n (pc' := 5) eX5_load_4 rfl rfl ?_
  refine aw_Gld (pc' := 6) 3 2 i hW eX5_load_5 rfl (by decide) rfl (show vp_in _ 6 from vp_in_nI (by omega) (by omega)) (nI_clamp (by omega)) ?_
  refine aw_istore_n (pc' := 7) eX5_load_6 rfl (by decide) ?_
  dsimp only [zst, zst2, zcut]
  refine aw_aload_n (pc' := 8) eX5_load_7 rfl rfl trivial ?_
  refine aw_Gsea (pc' := 11) hW eX5_load_8 rfl q123 ?_
  refine aw_ifnull (pc' := 14) (tgt := 33) eX5_load_11 rfl (by decide) trivial (fun c_11 => ?_) (fun c_11 => ?_)
  · exact hT
  · exact absurd rfl c_11
theorem yes_X5_load {L : Nat → Int32} {s a N : Nat} {f : Nat → Int32} {r : Int32} (hW : WG h w g o L (.ref s)) (h1 : w + 10 ≤ 96) (hO : OA h s (.inr (2, [.ref a, .int r]))) (hA : OA h a (.inl (0, (N, .inl f)))) (hN : N ≤ 100) (hs96 : 96 ≤ s) (ha96 : 96 ≤ a) {i : Nat} (hi : i < 6) (hd : 2 ≤ d) (hT : ∀ h' L', WG h' w g o L' (.ref s) → Same w 10 h h' → AW l G mX5_load d 0 0 Q 0 0 h' [some (.ref w), some (.int (nI i)), some (.int (g (10 * i + 2) + (cAd f (mNm g i) N).1))] [] 33) : AW l G mX5_load d 0 0 Q 0 0 h [some (.ref w), some (.int (nI i)), none] [] 0 := by
  have h16 := hW.1
  refine aw_aload_n (pc' := 1) eX5_load_0 rfl rfl trivial ?_
  refine aw_Wref (pc' := 4) (kf := 3) hW eX5_load_1 rfl (by decide) q102 ?_
  refine aw_iload_n (pc' := 5) eX5_load_4 rfl rfl ?_
  refine aw_Gld (pc' := 6) 3 2 i hW eX5_load_5 rfl (by decide) rfl (show vp_in _ 6 from vp_in_nI (by omega) (by omega)) (nI_clamp (by omega)) ?_
  refine aw_istore_n (pc' := 7) eX5_load_6 rfl (by decide) ?_
  dsimp only [zst, zst2, zcut]
  refine aw_aload_n (pc' := 8) eX5_load_7 rfl rfl trivial ?_
  refine aw_Gsea (pc' := 11) hW eX5_load_8 rfl q123 ?_
  refine aw_ifnull (pc' := 14) (tgt := 33) eX5_load_11 rfl (by decide) trivial (fun c_11 => ?_) (fun c_11 => ?_)
  · exact absurd c_11 (fun z => by cases z)
  · refine aw_aload_n (pc' := 15) eX5_load_14 rfl rfl trivial ?_
    refine aw_iload_n (pc' := 16) eX5_load_15 rfl rfl ?_
    refine aw_callv (pc' := 19) (nn := 1) (c_X5_fillLetters (d := d - 1) hW hi (by omega)) eX5_load_16 rfl ⟨q313, q316, q56⟩ q315 q0 ⟨rfl, by decide +kernel, by decide +kernel, by decide +kernel⟩ rfl (by rw [hW.2.1]; exact ⟨rfl, rfl⟩) rfl ⟨by omega, by decide⟩ ⟨by omega, by omega⟩ rfl (Nat.le_of_ble_eq_true rfl) (fun v3 h4 hq5 => ?_)
    obtain ⟨rfl, L2, hL2, hW1, hs2⟩ := hq5
    have hO2 := hO.fr hs2 (Or.inr (by omega))
    have hA2 := hA.fr hs2 (Or.inr (by omega))
    obtain ⟨f9, e9, h9⟩ := hW1.2.2.1 9 (by decide) (by decide)
    rw [show wlen 9 = 6 from rfl] at e9 h9
    have hB : OA _ (w + 9) (.inl (0, (6, .inl f9))) := ⟨e9, by omega⟩
    dsimp only [Option.toList, List.cons_append, List.nil_append]
    refine aw_iload_n (pc' := 20) eX5_load_19 rfl rfl ?_
    refine aw_aload_n (pc' := 21) eX5_load_20 rfl rfl trivial ?_
    refine aw_Gsea (pc' := 24) hW1 eX5_load_21 rfl q123 ?_
    refine aw_aload_n (pc' := 25) eX5_load_24 rfl rfl trivial ?_
    refine aw_Wref (pc' := 28) (kf := 9) hW1 eX5_load_25 rfl (by decide) q114 ?_
    refine aw_callv (pc' := 31) (nn := 1) (c_X2_adds (d := d - 1) hO2 hA2 hB hN (by omega)) eX5_load_28 rfl ⟨q317, q320, q71⟩ q318 q319 ⟨rfl, by decide +kernel, by decide +kernel, by decide +kernel⟩ rfl (by rw [hO2.1]; exact ⟨rfl, rfl⟩) rfl ⟨by omega, by decide⟩ ⟨by omega, by omega⟩ rfl (Nat.le_of_ble_eq_true rfl) (fun v6 h7 hq8 => ?_)
    obtain ⟨rfl, rfl⟩ := hq8
    dsimp only [Option.toList, List.cons_append, List.nil_append]
    refine aw_iadd (pc' := 32) eX5_load_31 rfl ?_
    refine aw_istore_n (pc' := 33) eX5_load_32 rfl (by decide) ?_
    dsimp only [zst, zst2, zcut]
    rw [cAd_ext (N' := mNm g i) (fun j hj => (h9 j hj).trans (hL2 j hj))]
    exact hT _ _ hW1 hs2
theorem c_X5_load (hW : WF F h w g o) (hg : gOk g m t) {i : Nat} (hi : i < 6) (hd : 2 ≤ d) : Ct l G mX5_load yX5_load d 0 0 [.ref w, .int (nI i)] h (fun r h' => r = some (.int (lod F g m t i)) ∧ WF F h' w g o ∧ Same w 10 h h') := by
  refine ct_of (lv := [some (.ref w), some (.int (nI i)), none]) (by decide +kernel) rfl (fun z => by cases z) (fun _ => rfl) (fun _ => Nat.le_of_ble_eq_true rfl) ?_
  have hW0 := hW
  obtain ⟨h1, L, v, sd, hG, hS, hF⟩ := hW
  unfold lod
  rw [hF g rfl i hi]
  match sd, hS, hF with
  | none, hv, hF =>
    subst hv
    exact no_X5_load hG hi (tail_X5_load hW0 hg hi hd ⟨rfl, hW0, Same.rf⟩)
  | some (N, f, r), ⟨s, a, e1, e2, e3, e4, e5, e6⟩, hF =>
    subst e1
    refine yes_X5_load hG h1 e2 e3 e4 e5 e6 hi hd fun h' L' hW' hs' => ?_
    have hW2 : WF F h' w g o := ⟨h1, L', _, some (N, f, r), hW', ⟨s, a, rfl, e2.fr hs' (Or.inr (Nat.le_trans h1 e5)), e3.fr hs' (Or.inr (Nat.le_trans h1 e6)), e4, e5, e6⟩, hF⟩
    exact tail_X5_load hW2 hg hi hd ⟨rfl, hW2, hs'⟩
abbrev mX5_withinLoads : MT := (RX5, cX5_withinLoads, 3, (some .int), false)
theorem eX5_withinLoads_0 : decode mX5_withinLoads.2.1 0 = .ok (.iconst 0, 1) := by decide +kernel
theorem eX5_withinLoads_1 : decode mX5_withinLoads.2.1 1 = .ok (.istore_n 1, 1) := by decide +kernel
theorem eX5_withinLoads_2 : decode mX5_withinLoads.2.1 2 = .ok (.iconst 0, 1) := by decide +kernel
theorem eX5_withinLoads_3 : decode mX5_withinLoads.2.1 3 = .ok (.istore_n 2, 1) := by decide +kernel
theorem eX5_withinLoads_4 : decode mX5_withinLoads.2.1 4 = .ok (.iload_n 2, 1) := by decide +kernel
theorem eX5_withinLoads_5 : decode mX5_withinLoads.2.1 5 = .ok (.aload_n 0, 1) := by decide +kernel
theorem eX5_withinLoads_6 : decode mX5_withinLoads.2.1 6 = .ok (.getfield 49, 3) := by decide +kernel
theorem eX5_withinLoads_9 : decode mX5_withinLoads.2.1 9 = .ok (.if_icmp .ge 27, 3) := by decide +kernel
theorem eX5_withinLoads_12 : decode mX5_withinLoads.2.1 12 = .ok (.aload_n 0, 1) := by decide +kernel
theorem eX5_withinLoads_13 : decode mX5_withinLoads.2.1 13 = .ok (.getfield 21, 3) := by decide +kernel
theorem eX5_withinLoads_16 : decode mX5_withinLoads.2.1 16 = .ok (.iload_n 2, 1) := by decide +kernel
theorem eX5_withinLoads_17 : decode mX5_withinLoads.2.1 17 = .ok (.iaload, 1) := by decide +kernel
theorem eX5_withinLoads_18 : decode mX5_withinLoads.2.1 18 = .ok (.iconst 1, 1) := by decide +kernel
theorem eX5_withinLoads_19 : decode mX5_withinLoads.2.1 19 = .ok (.if_icmp .ne 11, 3) := by decide +kernel
theorem eX5_withinLoads_22 : decode mX5_withinLoads.2.1 22 = .ok (.iload_n 1, 1) := by decide +kernel
theorem eX5_withinLoads_23 : decode mX5_withinLoads.2.1 23 = .ok (.aload_n 0, 1) := by decide +kernel
theorem eX5_withinLoads_24 : decode mX5_withinLoads.2.1 24 = .ok (.iload_n 2, 1) := by decide +kernel
theorem eX5_withinLoads_25 : decode mX5_withinLoads.2.1 25 = .ok (.invokevirtual 78, 3) := by decide +kernel
theorem eX5_withinLoads_28 : decode mX5_withinLoads.2.1 28 = .ok (.iadd, 1) := by decide +kernel
theorem eX5_withinLoads_29 : decode mX5_withinLoads.2.1 29 = .ok (.istore_n 1, 1) := by decide +kernel
theorem eX5_withinLoads_30 : decode mX5_withinLoads.2.1 30 = .ok (.iinc 2 1, 3) := by decide +kernel
theorem eX5_withinLoads_33 : decode mX5_withinLoads.2.1 33 = .ok (.goto (-29), 3) := by decide +kernel
theorem eX5_withinLoads_36 : decode mX5_withinLoads.2.1 36 = .ok (.iload_n 1, 1) := by decide +kernel
theorem eX5_withinLoads_37 : decode mX5_withinLoads.2.1 37 = .ok (.ireturn, 1) := by decide +kernel
theorem lp_X5_withinLoads (hg : gOk g m t) (hd : 3 ≤ d) {h0 : Hp} (hQ : ∀ h', WF F h' w g o → Same w 10 h0 h' → Q (some (.int (sLoads F g m t m))) h') : ∀ (j i : Nat) (y x : Int32) (h : Hp), j = m - i → i ≤ m → y = nI i → x = sLoads F g m t i → WF F h w g o → Same w 10 h0 h → AW l G mX5_withinLoads d 0 0 Q 0 0 h [some (.ref w), some (.int x), some (.int y)] [] 4 := by
  have hgg := hg
  obtain ⟨hm, hm6, ht, ht2, hgq⟩ := hgg
  intro j
  induction j using Nat.strongRecOn with
  | _ j ih =>
    intro i y x h hj hi hy hx hW hs
    subst hy hx
    refine aw_iload_n (pc' := 5) eX5_withinLoads_4 rfl rfl ?_
    refine aw_aload_n (pc' := 6) eX5_withinLoads_5 rfl rfl trivial ?_
    refine aw_Fint (pc' := 9) (kf := 10) hW eX5_withinLoads_6 rfl (by decide) q115 ?_
    refine aw_icmp_ge (pc' := 12) (tgt := 36) eX5_withinLoads_9 rfl (by decide) (fun c_9 => ?_) (fun c_9 => ?_)
    · rw [gsc10, hm] at c_9
      have c9 := ge_nI (by omega) (by omega) c_9
      obtain rfl : i = m := by omega
      refine aw_iload_n (pc' := 37) eX5_withinLoads_36 rfl rfl ?_
      refine aw_ret (v := some (.int _)) eX5_withinLoads_37 ⟨rfl, rfl⟩ (by omega) (by omega) rfl ?_
      exact hQ _ hW hs
    · rw [gsc10, hm] at c_9
      have c9 := nge_nI (by omega) (by omega) c_9
      refine aw_aload_n (pc' := 13) eX5_withinLoads_12 rfl rfl trivial ?_
      refine aw_Fref (pc' := 16) (kf := 4) hW eX5_withinLoads_13 rfl (by decide) q104 ?_
      refine aw_iload_n (pc' := 17) eX5_withinLoads_16 rfl rfl ?_
      refine aw_Fld (pc' := 18) 4 3 i hW eX5_withinLoads_17 rfl (by decide) rfl (show vp_in _ 6 from vp_in_nI (by omega) (by omega)) (nI_clamp (by omega)) ?_
      refine aw_iconst (pc' := 19) (v := 1) eX5_withinLoads_18 rfl (by decide) ?_
      refine aw_icmp_ne (pc' := 22) (tgt := 30) eX5_withinLoads_19 rfl (by decide) (fun c_19 => ?_) (fun c_19 => ?_)
      · refine aw_iinc (pc' := 33) eX5_withinLoads_30 rfl rfl rfl (by decide) ?_
        dsimp only [zst, zst2, zcut]
        refine aw_goto eX5_withinLoads_33 (by decide) (tgt := 4) ?_
        refine ih (m - (i + 1)) (by omega) (i + 1) _ _ _ rfl (by omega) (nI_inc i) ?_ hW hs
        simp [sLoads, c_19]
      · refine aw_iload_n (pc' := 23) eX5_withinLoads_22 rfl rfl ?_
        refine aw_aload_n (pc' := 24) eX5_withinLoads_23 rfl rfl trivial ?_
        refine aw_iload_n (pc' := 25) eX5_withinLoads_24 rfl rfl ?_
        refine aw_callv (pc' := 28) (nn := 1) (c_X5_load (d := d - 1) hW hg (i := i) (by omega) (by omega)) eX5_withinLoads_25 rfl ⟨q354, q312, q56⟩ q310 q311 ⟨rfl, by decide +kernel, by decide +kernel, by decide +kernel⟩ rfl hW.ob rfl ⟨by omega, by decide⟩ ⟨by omega, by omega⟩ rfl (Nat.le_of_ble_eq_true rfl) (fun v3 h4 hq5 => ?_)
        obtain ⟨rfl, hW1, hs2⟩ := hq5
        dsimp only [Option.toList, List.cons_append, List.nil_append]
        refine aw_iadd (pc' := 29) eX5_withinLoads_28 rfl ?_
        refine aw_istore_n (pc' := 30) eX5_withinLoads_29 rfl (by decide) ?_
        dsimp only [zst, zst2, zcut]
        refine aw_iinc (pc' := 33) eX5_withinLoads_30 rfl rfl rfl (by decide) ?_
        dsimp only [zst, zst2, zcut]
        refine aw_goto eX5_withinLoads_33 (by decide) (tgt := 4) ?_
        refine ih (m - (i + 1)) (by omega) (i + 1) _ _ _ rfl (by omega) (nI_inc i) ?_ hW1 (hs.tr hs2)
        simp [sLoads, c_19]
theorem c_X5_withinLoads (hW : WF F h w g o) (hg : gOk g m t) (hd : 3 ≤ d) : Ct l G mX5_withinLoads yX5_withinLoads d 0 0 [.ref w] h (fun r h' => r = some (.int (sLoads F g m t m)) ∧ WF F h' w g o ∧ Same w 10 h h') := by
  refine ct_of (lv := [some (.ref w), none, none]) (by decide +kernel) rfl (fun z => by cases z) (fun _ => rfl) (fun _ => Nat.le_of_ble_eq_true rfl) ?_
  refine aw_iconst (pc' := 1) (v := 0) eX5_withinLoads_0 rfl (by decide) ?_
  refine aw_istore_n (pc' := 2) eX5_withinLoads_1 rfl (by decide) ?_
  dsimp only [zst, zst2, zcut]
  refine aw_iconst (pc' := 3) (v := 0) eX5_withinLoads_2 rfl (by decide) ?_
  refine aw_istore_n (pc' := 4) eX5_withinLoads_3 rfl (by decide) ?_
  dsimp only [zst, zst2, zcut]
  exact lp_X5_withinLoads hg hd (fun h' a b => ⟨rfl, a, b⟩) m 0 _ _ _ (by omega) (by omega) rfl rfl hW Same.rf
def cZ (g : Nat → Int32) (m : Nat) : Nat → (Nat → Int32)
  | 0 => g
  | i + 1 => upd (cZ g m i) (10 * m + (6 + i)) 0
theorem cZ_if (g : Nat → Int32) (m : Nat) : ∀ i x, cZ g m i x = if 10 * m + 6 ≤ x ∧ x < 10 * m + 6 + i then 0 else g x
  | 0, x => by rw [cZ, if_neg (by omega)]
  | i + 1, x => by
    rw [cZ, upd_if, cZ_if g m i x]
    by_cases c : x = 10 * m + (6 + i)
    · rw [if_pos c, if_pos (by omega)]
    · rw [if_neg c]
      by_cases c2 : 10 * m + 6 ≤ x ∧ x < 10 * m + 6 + i
      · rw [if_pos c2, if_pos (by omega)]
      · rw [if_neg c2, if_neg (by omega)]
abbrev mX5_comesNew : MT := (RX5, cX5_comesNew, 6, (some .int), false)
theorem eX5_comesNew_0 : decode mX5_comesNew.2.1 0 = .ok (.aload_n 0, 1) := by decide +kernel
theorem eX5_comesNew_1 : decode mX5_comesNew.2.1 1 = .ok (.getfield 49, 3) := by decide +kernel
theorem eX5_comesNew_4 : decode mX5_comesNew.2.1 4 = .ok (.istore 4, 2) := by decide +kernel
theorem eX5_comesNew_6 : decode mX5_comesNew.2.1 6 = .ok (.iload 4, 2) := by decide +kernel
theorem eX5_comesNew_8 : decode mX5_comesNew.2.1 8 = .ok (.bipush 6, 2) := by decide +kernel
theorem eX5_comesNew_10 : decode mX5_comesNew.2.1 10 = .ok (.if_icmp .lt 6, 3) := by decide +kernel
theorem eX5_comesNew_13 : decode mX5_comesNew.2.1 13 = .ok (.bipush (-4), 2) := by decide +kernel
theorem eX5_comesNew_15 : decode mX5_comesNew.2.1 15 = .ok (.ireturn, 1) := by decide +kernel
theorem eX5_comesNew_16 : decode mX5_comesNew.2.1 16 = .ok (.aload_n 0, 1) := by decide +kernel
theorem eX5_comesNew_17 : decode mX5_comesNew.2.1 17 = .ok (.getfield 9, 3) := by decide +kernel
theorem eX5_comesNew_20 : decode mX5_comesNew.2.1 20 = .ok (.iload 4, 2) := by decide +kernel
theorem eX5_comesNew_22 : decode mX5_comesNew.2.1 22 = .ok (.iload_n 1, 1) := by decide +kernel
theorem eX5_comesNew_23 : decode mX5_comesNew.2.1 23 = .ok (.iastore, 1) := by decide +kernel
theorem eX5_comesNew_24 : decode mX5_comesNew.2.1 24 = .ok (.aload_n 0, 1) := by decide +kernel
theorem eX5_comesNew_25 : decode mX5_comesNew.2.1 25 = .ok (.getfield 15, 3) := by decide +kernel
theorem eX5_comesNew_28 : decode mX5_comesNew.2.1 28 = .ok (.iload 4, 2) := by decide +kernel
theorem eX5_comesNew_30 : decode mX5_comesNew.2.1 30 = .ok (.iload_n 2, 1) := by decide +kernel
theorem eX5_comesNew_31 : decode mX5_comesNew.2.1 31 = .ok (.iastore, 1) := by decide +kernel
theorem eX5_comesNew_32 : decode mX5_comesNew.2.1 32 = .ok (.aload_n 0, 1) := by decide +kernel
theorem eX5_comesNew_33 : decode mX5_comesNew.2.1 33 = .ok (.getfield 18, 3) := by decide +kernel
theorem eX5_comesNew_36 : decode mX5_comesNew.2.1 36 = .ok (.iload 4, 2) := by decide +kernel
theorem eX5_comesNew_38 : decode mX5_comesNew.2.1 38 = .ok (.iload_n 3, 1) := by decide +kernel
theorem eX5_comesNew_39 : decode mX5_comesNew.2.1 39 = .ok (.iastore, 1) := by decide +kernel
theorem eX5_comesNew_40 : decode mX5_comesNew.2.1 40 = .ok (.aload_n 0, 1) := by decide +kernel
theorem eX5_comesNew_41 : decode mX5_comesNew.2.1 41 = .ok (.getfield 21, 3) := by decide +kernel
theorem eX5_comesNew_44 : decode mX5_comesNew.2.1 44 = .ok (.iload 4, 2) := by decide +kernel
theorem eX5_comesNew_46 : decode mX5_comesNew.2.1 46 = .ok (.iconst 0, 1) := by decide +kernel
theorem eX5_comesNew_47 : decode mX5_comesNew.2.1 47 = .ok (.iastore, 1) := by decide +kernel
theorem eX5_comesNew_48 : decode mX5_comesNew.2.1 48 = .ok (.aload_n 0, 1) := by decide +kernel
theorem eX5_comesNew_49 : decode mX5_comesNew.2.1 49 = .ok (.getfield 24, 3) := by decide +kernel
theorem eX5_comesNew_52 : decode mX5_comesNew.2.1 52 = .ok (.iload 4, 2) := by decide +kernel
theorem eX5_comesNew_54 : decode mX5_comesNew.2.1 54 = .ok (.iconst 0, 1) := by decide +kernel
theorem eX5_comesNew_55 : decode mX5_comesNew.2.1 55 = .ok (.iastore, 1) := by decide +kernel
theorem eX5_comesNew_56 : decode mX5_comesNew.2.1 56 = .ok (.aload_n 0, 1) := by decide +kernel
theorem eX5_comesNew_57 : decode mX5_comesNew.2.1 57 = .ok (.getfield 27, 3) := by decide +kernel
theorem eX5_comesNew_60 : decode mX5_comesNew.2.1 60 = .ok (.iload 4, 2) := by decide +kernel
theorem eX5_comesNew_62 : decode mX5_comesNew.2.1 62 = .ok (.iconst 0, 1) := by decide +kernel
theorem eX5_comesNew_63 : decode mX5_comesNew.2.1 63 = .ok (.iastore, 1) := by decide +kernel
theorem eX5_comesNew_64 : decode mX5_comesNew.2.1 64 = .ok (.iconst 0, 1) := by decide +kernel
theorem eX5_comesNew_65 : decode mX5_comesNew.2.1 65 = .ok (.istore 5, 2) := by decide +kernel
theorem eX5_comesNew_67 : decode mX5_comesNew.2.1 67 = .ok (.iload 5, 2) := by decide +kernel
theorem eX5_comesNew_69 : decode mX5_comesNew.2.1 69 = .ok (.iconst 4, 1) := by decide +kernel
theorem eX5_comesNew_70 : decode mX5_comesNew.2.1 70 = .ok (.if_icmp .ge 22, 3) := by decide +kernel
theorem eX5_comesNew_73 : decode mX5_comesNew.2.1 73 = .ok (.aload_n 0, 1) := by decide +kernel
theorem eX5_comesNew_74 : decode mX5_comesNew.2.1 74 = .ok (.getfield 30, 3) := by decide +kernel
theorem eX5_comesNew_77 : decode mX5_comesNew.2.1 77 = .ok (.iload 4, 2) := by decide +kernel
theorem eX5_comesNew_79 : decode mX5_comesNew.2.1 79 = .ok (.iconst 4, 1) := by decide +kernel
theorem eX5_comesNew_80 : decode mX5_comesNew.2.1 80 = .ok (.imul, 1) := by decide +kernel
theorem eX5_comesNew_81 : decode mX5_comesNew.2.1 81 = .ok (.iload 5, 2) := by decide +kernel
theorem eX5_comesNew_83 : decode mX5_comesNew.2.1 83 = .ok (.iadd, 1) := by decide +kernel
theorem eX5_comesNew_84 : decode mX5_comesNew.2.1 84 = .ok (.iconst 0, 1) := by decide +kernel
theorem eX5_comesNew_85 : decode mX5_comesNew.2.1 85 = .ok (.iastore, 1) := by decide +kernel
theorem eX5_comesNew_86 : decode mX5_comesNew.2.1 86 = .ok (.iinc 5 1, 3) := by decide +kernel
theorem eX5_comesNew_89 : decode mX5_comesNew.2.1 89 = .ok (.goto (-22), 3) := by decide +kernel
theorem eX5_comesNew_92 : decode mX5_comesNew.2.1 92 = .ok (.aload_n 0, 1) := by decide +kernel
theorem eX5_comesNew_93 : decode mX5_comesNew.2.1 93 = .ok (.dup, 1) := by decide +kernel
theorem eX5_comesNew_94 : decode mX5_comesNew.2.1 94 = .ok (.getfield 49, 3) := by decide +kernel
theorem eX5_comesNew_97 : decode mX5_comesNew.2.1 97 = .ok (.iconst 1, 1) := by decide +kernel
theorem eX5_comesNew_98 : decode mX5_comesNew.2.1 98 = .ok (.iadd, 1) := by decide +kernel
theorem eX5_comesNew_99 : decode mX5_comesNew.2.1 99 = .ok (.putfield 49, 3) := by decide +kernel
theorem eX5_comesNew_102 : decode mX5_comesNew.2.1 102 = .ok (.iload 4, 2) := by decide +kernel
theorem eX5_comesNew_104 : decode mX5_comesNew.2.1 104 = .ok (.ireturn, 1) := by decide +kernel
theorem lp_X5_comesNew (hm6 : m < 6) {o1 o2 o3 : Option Value} {h0 : Hp} (hT : ∀ h' o5, WF F h' w (cZ g m 4) o → Same w 10 h0 h' → AW l G mX5_comesNew d 0 0 Q 0 0 h' [some (.ref w), o1, o2, o3, some (.int (nI m)), o5] [] 92) : ∀ (j i : Nat) (y : Int32) (h : Hp), j = 4 - i → i ≤ 4 → y = nI i → WF F h w (cZ g m i) o → Same w 10 h0 h → AW l G mX5_comesNew d 0 0 Q 0 0 h [some (.ref w), o1, o2, o3, some (.int (nI m)), some (.int y)] [] 67 := by
  intro j
  induction j using Nat.strongRecOn with
  | _ j ih =>
    intro i y h hj hi hy hW hs
    subst hy
    refine aw_iload (pc' := 69) eX5_comesNew_67 rfl rfl ?_
    refine aw_iconst (pc' := 70) (v := 4) eX5_comesNew_69 rfl (by decide) ?_
    refine aw_icmp_ge (pc' := 73) (tgt := 92) eX5_comesNew_70 rfl (by decide) (fun c_70 => ?_) (fun c_70 => ?_)
    · have c9 := ge_nI (a := i) (b := 4) (by omega) (by omega) c_70
      obtain rfl : i = 4 := by omega
      exact hT _ _ hW hs
    · have c9 := nge_nI (a := i) (b := 4) (by omega) (by omega) c_70
      have hx7 := ixr (i := m) (c := i) hm6 c9
      refine aw_aload_n (pc' := 74) eX5_comesNew_73 rfl rfl trivial ?_
      refine aw_Fref (pc' := 77) (kf := 7) hW eX5_comesNew_74 rfl (by decide) q110 ?_
      refine aw_iload (pc' := 79) eX5_comesNew_77 rfl rfl ?_
      refine aw_iconst (pc' := 80) (v := 4) eX5_comesNew_79 rfl (by decide) ?_
      refine aw_imul (pc' := 81) eX5_comesNew_80 rfl ?_
      refine aw_iload (pc' := 83) eX5_comesNew_81 rfl rfl ?_
      refine aw_iadd (pc' := 84) eX5_comesNew_83 rfl ?_
      refine aw_iconst (pc' := 85) (v := 0) eX5_comesNew_84 rfl (by decide) ?_
      refine aw_Fst7 (pc' := 86) m i hW eX5_comesNew_85 rfl (by omega) (by omega) hx7.2 hx7.1 (fun h3 hW1 hs2 => ?_)
      refine aw_iinc (pc' := 89) eX5_comesNew_86 rfl rfl rfl (by decide) ?_
      dsimp only [zst, zst2, zcut]
      refine aw_goto eX5_comesNew_89 (by decide) (tgt := 67) ?_
      exact ih (4 - (i + 1)) (by omega) (i + 1) _ _ rfl (by omega) (nI_inc i) hW1 (hs.tr hs2)
theorem c_X5_comesNew (hW : WF F h w g o) (hm : g 60 = nI m) (hm6 : m < 6) (kd vv wt : Int32) (hd : 0 ≤ d) : Ct l G mX5_comesNew yX5_comesNew d 0 0 [.ref w, .int kd, .int vv, .int wt] h (fun r h' => r = some (.int (nI m)) ∧ WF F h' w (sNew g m kd vv wt) o ∧ Same w 10 h h') := by
  refine ct_of (lv := [some (.ref w), some (.int kd), some (.int vv), some (.int wt), none, none]) (by decide +kernel) rfl (fun z => by cases z) (fun _ => rfl) (fun _ => Nat.le_of_ble_eq_true rfl) ?_
  refine aw_aload_n (pc' := 1) eX5_comesNew_0 rfl rfl trivial ?_
  refine aw_Fint (pc' := 4) (kf := 10) hW eX5_comesNew_1 rfl (by decide) q115 ?_
  rw [gsc10, hm]
  refine aw_istore (pc' := 6) eX5_comesNew_4 rfl (by decide) ?_
  dsimp only [zst, zst2, zcut]
  refine aw_iload (pc' := 8) eX5_comesNew_6 rfl rfl ?_
  refine aw_bipush (pc' := 10) (v := 6) eX5_comesNew_8 rfl (by decide) ?_
  refine aw_icmp_lt (pc' := 13) (tgt := 16) eX5_comesNew_10 rfl (by decide) (fun c_10 => ?_) (fun c_10 => ?_)
  · refine aw_aload_n (pc' := 17) eX5_comesNew_16 rfl rfl trivial ?_
    refine aw_Fref (pc' := 20) (kf := 1) hW eX5_comesNew_17 rfl (by decide) q98 ?_
    refine aw_iload (pc' := 22) eX5_comesNew_20 rfl rfl ?_
    refine aw_iload_n (pc' := 23) eX5_comesNew_22 rfl rfl ?_
    refine aw_Fst (pc' := 24) 1 0 m hW eX5_comesNew_23 rfl (by decide) rfl (show vp_in _ 6 from vp_in_nI (by omega) (by omega)) (nI_clamp (by omega)) (fun h3 hW1 hs2 => ?_)
    refine aw_aload_n (pc' := 25) eX5_comesNew_24 rfl rfl trivial ?_
    refine aw_Fref (pc' := 28) (kf := 2) hW1 eX5_comesNew_25 rfl (by decide) q100 ?_
    refine aw_iload (pc' := 30) eX5_comesNew_28 rfl rfl ?_
    refine aw_iload_n (pc' := 31) eX5_comesNew_30 rfl rfl ?_
    refine aw_Fst (pc' := 32) 2 1 m hW1 eX5_comesNew_31 rfl (by decide) rfl (show vp_in _ 6 from vp_in_nI (by omega) (by omega)) (nI_clamp (by omega)) (fun h6 hW4 hs5 => ?_)
    have hT7 := hs2.tr hs5
    refine aw_aload_n (pc' := 33) eX5_comesNew_32 rfl rfl trivial ?_
    refine aw_Fref (pc' := 36) (kf := 3) hW4 eX5_comesNew_33 rfl (by decide) q102 ?_
    refine aw_iload (pc' := 38) eX5_comesNew_36 rfl rfl ?_
    refine aw_iload_n (pc' := 39) eX5_comesNew_38 rfl rfl ?_
    refine aw_Fst (pc' := 40) 3 2 m hW4 eX5_comesNew_39 rfl (by decide) rfl (show vp_in _ 6 from vp_in_nI (by omega) (by omega)) (nI_clamp (by omega)) (fun h10 hW8 hs9 => ?_)
    have hT11 := hT7.tr hs9
    refine aw_aload_n (pc' := 41) eX5_comesNew_40 rfl rfl trivial ?_
    refine aw_Fref (pc' := 44) (kf := 4) hW8 eX5_comesNew_41 rfl (by decide) q104 ?_
    refine aw_iload (pc' := 46) eX5_comesNew_44 rfl rfl ?_
    refine aw_iconst (pc' := 47) (v := 0) eX5_comesNew_46 rfl (by decide) ?_
    refine aw_Fst (pc' := 48) 4 3 m hW8 eX5_comesNew_47 rfl (by decide) rfl (show vp_in _ 6 from vp_in_nI (by omega) (by omega)) (nI_clamp (by omega)) (fun h14 hW12 hs13 => ?_)
    have hT15 := hT11.tr hs13
    refine aw_aload_n (pc' := 49) eX5_comesNew_48 rfl rfl trivial ?_
    refine aw_Fref (pc' := 52) (kf := 5) hW12 eX5_comesNew_49 rfl (by decide) q106 ?_
    refine aw_iload (pc' := 54) eX5_comesNew_52 rfl rfl ?_
    refine aw_iconst (pc' := 55) (v := 0) eX5_comesNew_54 rfl (by decide) ?_
    refine aw_Fst (pc' := 56) 5 4 m hW12 eX5_comesNew_55 rfl (by decide) rfl (show vp_in _ 6 from vp_in_nI (by omega) (by omega)) (nI_clamp (by omega)) (fun h18 hW16 hs17 => ?_)
    have hT19 := hT15.tr hs17
    refine aw_aload_n (pc' := 57) eX5_comesNew_56 rfl rfl trivial ?_
    refine aw_Fref (pc' := 60) (kf := 6) hW16 eX5_comesNew_57 rfl (by decide) q108 ?_
    refine aw_iload (pc' := 62) eX5_comesNew_60 rfl rfl ?_
    refine aw_iconst (pc' := 63) (v := 0) eX5_comesNew_62 rfl (by decide) ?_
    refine aw_Fst (pc' := 64) 6 5 m hW16 eX5_comesNew_63 rfl (by decide) rfl (show vp_in _ 6 from vp_in_nI (by omega) (by omega)) (nI_clamp (by omega)) (fun h22 hW20 hs21 => ?_)
    have hT23 := hT19.tr hs21
    refine aw_iconst (pc' := 65) (v := 0) eX5_comesNew_64 rfl (by decide) ?_
    refine aw_istore (pc' := 67) eX5_comesNew_65 rfl (by decide) ?_
    dsimp only [zst, zst2, zcut]
    refine lp_X5_comesNew hm6 (fun h9 o5 hW9 hs9 => ?_) 4 0 _ _ (by omega) (by omega) rfl hW20 hT23
    refine aw_aload_n (pc' := 93) eX5_comesNew_92 rfl rfl trivial ?_
    refine aw_dup (pc' := 94) eX5_comesNew_93 rfl rfl ?_
    refine aw_Fint (pc' := 97) (kf := 10) hW9 eX5_comesNew_94 rfl (by decide) q115 ?_
    refine aw_iconst (pc' := 98) (v := 1) eX5_comesNew_97 rfl (by decide) ?_
    refine aw_iadd (pc' := 99) eX5_comesNew_98 rfl ?_
    refine aw_Fput (pc' := 102) 10 hW9 eX5_comesNew_99 rfl (by decide) q115 (fun h3 hW1 hs2 => ?_)
    have hT4 := hs9.tr hs2
    refine aw_iload (pc' := 104) eX5_comesNew_102 rfl rfl ?_
    refine aw_ret (v := some (.int _)) eX5_comesNew_104 ⟨rfl, rfl⟩ (by omega) (by omega) rfl ?_
    refine ⟨rfl, WF.gx hW1 fun j hj => ?_, hT4⟩
    show upd (cZ _ m 4) 60 _ j = sNew g m kd vv wt j
    rw [upd_if, sNew]
    by_cases c60 : j = 60
    · rw [if_pos c60, if_pos c60, gsc10, cZ_if, if_neg (by omega)]
      simp only [upd_if]
      rw [if_neg (by omega), if_neg (by omega), if_neg (by omega), if_neg (by omega), if_neg (by omega), if_neg (by omega), hm]
      exact nI_1 m
    · rw [if_neg c60, if_neg c60, cZ_if]
      simp only [upd_if]
      by_cases cl : j < 10 * m ∨ 10 * m + 10 ≤ j
      · repeat rw [if_neg (by omega)]
      · obtain ⟨c, hc, rfl⟩ : ∃ c, c < 10 ∧ j = 10 * m + c := ⟨j - 10 * m, by omega, by omega⟩
        rcases (by omega : c = 0 ∨ c = 1 ∨ c = 2 ∨ c = 3 ∨ c = 4 ∨ c = 5 ∨ c = 6 ∨ c = 7 ∨ c = 8 ∨ c = 9) with rfl | rfl | rfl | rfl | rfl | rfl | rfl | rfl | rfl | rfl <;> (repeat first | rw [if_pos (by omega)] | rw [if_neg (by omega)])
  · exact absurd ((nI_ltI (b := 6) (by omega) (by omega)).mpr hm6) c_10
end C3
