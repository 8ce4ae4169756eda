/-! the class: a sea's steps -/
section C1
variable {l : Launch} {G : GT} {w : Nat} {d n m t : Nat} {g : Nat → Int32} {h : Hp} {Q : Option Value → Hp → Prop}
def cA1 (s : Int32) (N : Nat → Int32) (x : Int32 × Int32) : Int32 × Int32 :=
  if s &&& 15 = 0 then (x.1, (x.2 <<< (1 &&& 31)) ||| (if (if (s >>> (4 &&& 31)) &&& 15 < 6 then N ((s >>> (4 &&& 31)) &&& 15).toNatClampNeg else 0) < s >>> (8 &&& 31) then 1 else 0))
  else if s &&& 15 = 1 then (x.1, (x.2 <<< (1 &&& 31)) ||| (if (if (s >>> (4 &&& 31)) &&& 15 < 6 then N ((s >>> (4 &&& 31)) &&& 15).toNatClampNeg else 0) = s >>> (8 &&& 31) then 1 else 0))
  else if s &&& 15 = 2 then (x.1, (x.2 <<< (1 &&& 31)) ||| (if s >>> (8 &&& 31) < (if (s >>> (4 &&& 31)) &&& 15 < 6 then N ((s >>> (4 &&& 31)) &&& 15).toNatClampNeg else 0) then 1 else 0))
  else if s &&& 15 = 3 then (x.1, x.2 ^^^ 1)
  else if s &&& 15 = 4 then (x.1, (x.2 >>> (1 &&& 31)) &&& ((x.2 &&& 1) ||| -2))
  else if s &&& 15 = 5 then (x.1, (x.2 >>> (1 &&& 31)) ||| (x.2 &&& 1))
  else if s &&& 15 = 6 then (x.1 + (x.2 &&& (1 : Int32)) * (s >>> (8 &&& 31)), x.2 >>> (1 &&& 31))
  else if s &&& 15 = 7 then (x.1 - (x.2 &&& (1 : Int32)) * (s >>> (8 &&& 31)), x.2 >>> (1 &&& 31))
  else x
def cAd (f N : Nat → Int32) : Nat → Int32 × Int32
  | 0 => (0, 0)
  | i + 1 => cA1 (f i) N (cAd f N i)
theorem nI_bv (x : Int32) : x = nI x.toBitVec.toNat := by
  apply Int32.toBitVec_inj.mp
  show x.toBitVec = (Int32.ofNat x.toBitVec.toNat).toBitVec
  simp [Int32.ofNat]
theorem and15 (x : Int32) : ∃ k, k < 16 ∧ x &&& 15 = nI k := by
  refine ⟨(x &&& 15).toBitVec.toNat, ?_, nI_bv _⟩
  show (x.toBitVec &&& 15#32).toNat < 16
  rw [BitVec.toNat_and]
  exact Nat.lt_of_le_of_lt Nat.and_le_right (by decide)
theorem cA1_ext {s : Int32} {N N' : Nat → Int32} {x : Int32 × Int32} (hN : ∀ j, j < 6 → N j = N' j) : cA1 s N x = cA1 s N' x := by
  obtain ⟨k, hk, e⟩ := and15 (s >>> (4 &&& 31))
  have z : (if (s >>> (4 &&& 31)) &&& 15 < 6 then N ((s >>> (4 &&& 31)) &&& 15).toNatClampNeg else 0) = (if (s >>> (4 &&& 31)) &&& 15 < 6 then N' ((s >>> (4 &&& 31)) &&& 15).toNatClampNeg else 0) := by
    rw [e]
    split
    · rename_i y
      have := (nI_ltI (b := 6) (by omega) (by omega)).mp y
      rw [nI_clamp (by omega), hN k this]
    · rfl
  unfold cA1
  rw [z]
theorem cAd_ext {f N N' : Nat → Int32} (hN : ∀ j, j < 6 → N j = N' j) : ∀ i, cAd f N i = cAd f N' i
  | 0 => rfl
  | i + 1 => by rw [cAd, cAd, cAd_ext hN i, cA1_ext hN]

abbrev mX2_adds : MT := (RX2, cX2_adds, 9, (some .int), false)
theorem eX2_adds_0 : decode mX2_adds.2.1 0 = .ok (.iconst 0, 1) := by decide +kernel
theorem eX2_adds_1 : decode mX2_adds.2.1 1 = .ok (.istore_n 2, 1) := by decide +kernel
theorem eX2_adds_2 : decode mX2_adds.2.1 2 = .ok (.iconst 0, 1) := by decide +kernel
theorem eX2_adds_3 : decode mX2_adds.2.1 3 = .ok (.istore_n 3, 1) := by decide +kernel
theorem eX2_adds_4 : decode mX2_adds.2.1 4 = .ok (.iconst 0, 1) := by decide +kernel
theorem eX2_adds_5 : decode mX2_adds.2.1 5 = .ok (.istore 4, 2) := by decide +kernel
theorem eX2_adds_7 : decode mX2_adds.2.1 7 = .ok (.iload 4, 2) := by decide +kernel
theorem eX2_adds_9 : decode mX2_adds.2.1 9 = .ok (.aload_n 0, 1) := by decide +kernel
theorem eX2_adds_10 : decode mX2_adds.2.1 10 = .ok (.getfield 7, 3) := by decide +kernel
theorem eX2_adds_13 : decode mX2_adds.2.1 13 = .ok (.arraylength, 1) := by decide +kernel
theorem eX2_adds_14 : decode mX2_adds.2.1 14 = .ok (.if_icmp .ge 232, 3) := by decide +kernel
theorem eX2_adds_17 : decode mX2_adds.2.1 17 = .ok (.aload_n 0, 1) := by decide +kernel
theorem eX2_adds_18 : decode mX2_adds.2.1 18 = .ok (.getfield 7, 3) := by decide +kernel
theorem eX2_adds_21 : decode mX2_adds.2.1 21 = .ok (.iload 4, 2) := by decide +kernel
theorem eX2_adds_23 : decode mX2_adds.2.1 23 = .ok (.iaload, 1) := by decide +kernel
theorem eX2_adds_24 : decode mX2_adds.2.1 24 = .ok (.iconst 4, 1) := by decide +kernel
theorem eX2_adds_25 : decode mX2_adds.2.1 25 = .ok (.ishr, 1) := by decide +kernel
theorem eX2_adds_26 : decode mX2_adds.2.1 26 = .ok (.bipush 15, 2) := by decide +kernel
theorem eX2_adds_28 : decode mX2_adds.2.1 28 = .ok (.iand, 1) := by decide +kernel
theorem eX2_adds_29 : decode mX2_adds.2.1 29 = .ok (.istore 5, 2) := by decide +kernel
theorem eX2_adds_31 : decode mX2_adds.2.1 31 = .ok (.iload 5, 2) := by decide +kernel
theorem eX2_adds_33 : decode mX2_adds.2.1 33 = .ok (.aload_n 1, 1) := by decide +kernel
theorem eX2_adds_34 : decode mX2_adds.2.1 34 = .ok (.arraylength, 1) := by decide +kernel
theorem eX2_adds_35 : decode mX2_adds.2.1 35 = .ok (.if_icmp .ge 10, 3) := by decide +kernel
theorem eX2_adds_38 : decode mX2_adds.2.1 38 = .ok (.aload_n 1, 1) := by decide +kernel
theorem eX2_adds_39 : decode mX2_adds.2.1 39 = .ok (.iload 5, 2) := by decide +kernel
theorem eX2_adds_41 : decode mX2_adds.2.1 41 = .ok (.iaload, 1) := by decide +kernel
theorem eX2_adds_42 : decode mX2_adds.2.1 42 = .ok (.goto 4, 3) := by decide +kernel
theorem eX2_adds_45 : decode mX2_adds.2.1 45 = .ok (.iconst 0, 1) := by decide +kernel
theorem eX2_adds_46 : decode mX2_adds.2.1 46 = .ok (.istore 6, 2) := by decide +kernel
theorem eX2_adds_48 : decode mX2_adds.2.1 48 = .ok (.aload_n 0, 1) := by decide +kernel
theorem eX2_adds_49 : decode mX2_adds.2.1 49 = .ok (.getfield 7, 3) := by decide +kernel
theorem eX2_adds_52 : decode mX2_adds.2.1 52 = .ok (.iload 4, 2) := by decide +kernel
theorem eX2_adds_54 : decode mX2_adds.2.1 54 = .ok (.iaload, 1) := by decide +kernel
theorem eX2_adds_55 : decode mX2_adds.2.1 55 = .ok (.bipush 8, 2) := by decide +kernel
theorem eX2_adds_57 : decode mX2_adds.2.1 57 = .ok (.ishr, 1) := by decide +kernel
theorem eX2_adds_58 : decode mX2_adds.2.1 58 = .ok (.istore 7, 2) := by decide +kernel
theorem eX2_adds_60 : decode mX2_adds.2.1 60 = .ok (.iload_n 3, 1) := by decide +kernel
theorem eX2_adds_61 : decode mX2_adds.2.1 61 = .ok (.iconst 1, 1) := by decide +kernel
theorem eX2_adds_62 : decode mX2_adds.2.1 62 = .ok (.iand, 1) := by decide +kernel
theorem eX2_adds_63 : decode mX2_adds.2.1 63 = .ok (.istore 8, 2) := by decide +kernel
theorem eX2_adds_65 : decode mX2_adds.2.1 65 = .ok (.aload_n 0, 1) := by decide +kernel
theorem eX2_adds_66 : decode mX2_adds.2.1 66 = .ok (.getfield 7, 3) := by decide +kernel
theorem eX2_adds_69 : decode mX2_adds.2.1 69 = .ok (.iload 4, 2) := by decide +kernel
theorem eX2_adds_71 : decode mX2_adds.2.1 71 = .ok (.iaload, 1) := by decide +kernel
theorem eX2_adds_72 : decode mX2_adds.2.1 72 = .ok (.bipush 15, 2) := by decide +kernel
theorem eX2_adds_74 : decode mX2_adds.2.1 74 = .ok (.iand, 1) := by decide +kernel
theorem eX2_adds_75 : decode mX2_adds.2.1 75 = .ok (.tableswitch 165 0 7 #[45, 65, 85, 105, 112, 125, 135, 150], 45) := by decide +kernel
theorem eX2_adds_120 : decode mX2_adds.2.1 120 = .ok (.iload_n 3, 1) := by decide +kernel
theorem eX2_adds_121 : decode mX2_adds.2.1 121 = .ok (.iconst 1, 1) := by decide +kernel
theorem eX2_adds_122 : decode mX2_adds.2.1 122 = .ok (.ishl, 1) := by decide +kernel
theorem eX2_adds_123 : decode mX2_adds.2.1 123 = .ok (.iload 6, 2) := by decide +kernel
theorem eX2_adds_125 : decode mX2_adds.2.1 125 = .ok (.iload 7, 2) := by decide +kernel
theorem eX2_adds_127 : decode mX2_adds.2.1 127 = .ok (.if_icmp .ge 7, 3) := by decide +kernel
theorem eX2_adds_130 : decode mX2_adds.2.1 130 = .ok (.iconst 1, 1) := by decide +kernel
theorem eX2_adds_131 : decode mX2_adds.2.1 131 = .ok (.goto 4, 3) := by decide +kernel
theorem eX2_adds_134 : decode mX2_adds.2.1 134 = .ok (.iconst 0, 1) := by decide +kernel
theorem eX2_adds_135 : decode mX2_adds.2.1 135 = .ok (.ior, 1) := by decide +kernel
theorem eX2_adds_136 : decode mX2_adds.2.1 136 = .ok (.istore_n 3, 1) := by decide +kernel
theorem eX2_adds_137 : decode mX2_adds.2.1 137 = .ok (.goto 103, 3) := by decide +kernel
theorem eX2_adds_140 : decode mX2_adds.2.1 140 = .ok (.iload_n 3, 1) := by decide +kernel
theorem eX2_adds_141 : decode mX2_adds.2.1 141 = .ok (.iconst 1, 1) := by decide +kernel
theorem eX2_adds_142 : decode mX2_adds.2.1 142 = .ok (.ishl, 1) := by decide +kernel
theorem eX2_adds_143 : decode mX2_adds.2.1 143 = .ok (.iload 6, 2) := by decide +kernel
theorem eX2_adds_145 : decode mX2_adds.2.1 145 = .ok (.iload 7, 2) := by decide +kernel
theorem eX2_adds_147 : decode mX2_adds.2.1 147 = .ok (.if_icmp .ne 7, 3) := by decide +kernel
theorem eX2_adds_150 : decode mX2_adds.2.1 150 = .ok (.iconst 1, 1) := by decide +kernel
theorem eX2_adds_151 : decode mX2_adds.2.1 151 = .ok (.goto 4, 3) := by decide +kernel
theorem eX2_adds_154 : decode mX2_adds.2.1 154 = .ok (.iconst 0, 1) := by decide +kernel
theorem eX2_adds_155 : decode mX2_adds.2.1 155 = .ok (.ior, 1) := by decide +kernel
theorem eX2_adds_156 : decode mX2_adds.2.1 156 = .ok (.istore_n 3, 1) := by decide +kernel
theorem eX2_adds_157 : decode mX2_adds.2.1 157 = .ok (.goto 83, 3) := by decide +kernel
theorem eX2_adds_160 : decode mX2_adds.2.1 160 = .ok (.iload_n 3, 1) := by decide +kernel
theorem eX2_adds_161 : decode mX2_adds.2.1 161 = .ok (.iconst 1, 1) := by decide +kernel
theorem eX2_adds_162 : decode mX2_adds.2.1 162 = .ok (.ishl, 1) := by decide +kernel
theorem eX2_adds_163 : decode mX2_adds.2.1 163 = .ok (.iload 6, 2) := by decide +kernel
theorem eX2_adds_165 : decode mX2_adds.2.1 165 = .ok (.iload 7, 2) := by decide +kernel
theorem eX2_adds_167 : decode mX2_adds.2.1 167 = .ok (.if_icmp .le 7, 3) := by decide +kernel
theorem eX2_adds_170 : decode mX2_adds.2.1 170 = .ok (.iconst 1, 1) := by decide +kernel
theorem eX2_adds_171 : decode mX2_adds.2.1 171 = .ok (.goto 4, 3) := by decide +kernel
theorem eX2_adds_174 : decode mX2_adds.2.1 174 = .ok (.iconst 0, 1) := by decide +kernel
theorem eX2_adds_175 : decode mX2_adds.2.1 175 = .ok (.ior, 1) := by decide +kernel
theorem eX2_adds_176 : decode mX2_adds.2.1 176 = .ok (.istore_n 3, 1) := by decide +kernel
theorem eX2_adds_177 : decode mX2_adds.2.1 177 = .ok (.goto 63, 3) := by decide +kernel
theorem eX2_adds_180 : decode mX2_adds.2.1 180 = .ok (.iload_n 3, 1) := by decide +kernel
theorem eX2_adds_181 : decode mX2_adds.2.1 181 = .ok (.iconst 1, 1) := by decide +kernel
theorem eX2_adds_182 : decode mX2_adds.2.1 182 = .ok (.ixor, 1) := by decide +kernel
theorem eX2_adds_183 : decode mX2_adds.2.1 183 = .ok (.istore_n 3, 1) := by decide +kernel
theorem eX2_adds_184 : decode mX2_adds.2.1 184 = .ok (.goto 56, 3) := by decide +kernel
theorem eX2_adds_187 : decode mX2_adds.2.1 187 = .ok (.iload_n 3, 1) := by decide +kernel
theorem eX2_adds_188 : decode mX2_adds.2.1 188 = .ok (.iconst 1, 1) := by decide +kernel
theorem eX2_adds_189 : decode mX2_adds.2.1 189 = .ok (.ishr, 1) := by decide +kernel
theorem eX2_adds_190 : decode mX2_adds.2.1 190 = .ok (.iload 8, 2) := by decide +kernel
theorem eX2_adds_192 : decode mX2_adds.2.1 192 = .ok (.bipush (-2), 2) := by decide +kernel
theorem eX2_adds_194 : decode mX2_adds.2.1 194 = .ok (.ior, 1) := by decide +kernel
theorem eX2_adds_195 : decode mX2_adds.2.1 195 = .ok (.iand, 1) := by decide +kernel
theorem eX2_adds_196 : decode mX2_adds.2.1 196 = .ok (.istore_n 3, 1) := by decide +kernel
theorem eX2_adds_197 : decode mX2_adds.2.1 197 = .ok (.goto 43, 3) := by decide +kernel
theorem eX2_adds_200 : decode mX2_adds.2.1 200 = .ok (.iload_n 3, 1) := by decide +kernel
theorem eX2_adds_201 : decode mX2_adds.2.1 201 = .ok (.iconst 1, 1) := by decide +kernel
theorem eX2_adds_202 : decode mX2_adds.2.1 202 = .ok (.ishr, 1) := by decide +kernel
theorem eX2_adds_203 : decode mX2_adds.2.1 203 = .ok (.iload 8, 2) := by decide +kernel
theorem eX2_adds_205 : decode mX2_adds.2.1 205 = .ok (.ior, 1) := by decide +kernel
theorem eX2_adds_206 : decode mX2_adds.2.1 206 = .ok (.istore_n 3, 1) := by decide +kernel
theorem eX2_adds_207 : decode mX2_adds.2.1 207 = .ok (.goto 33, 3) := by decide +kernel
theorem eX2_adds_210 : decode mX2_adds.2.1 210 = .ok (.iload_n 2, 1) := by decide +kernel
theorem eX2_adds_211 : decode mX2_adds.2.1 211 = .ok (.iload 8, 2) := by decide +kernel
theorem eX2_adds_213 : decode mX2_adds.2.1 213 = .ok (.iload 7, 2) := by decide +kernel
theorem eX2_adds_215 : decode mX2_adds.2.1 215 = .ok (.imul, 1) := by decide +kernel
theorem eX2_adds_216 : decode mX2_adds.2.1 216 = .ok (.iadd, 1) := by decide +kernel
theorem eX2_adds_217 : decode mX2_adds.2.1 217 = .ok (.istore_n 2, 1) := by decide +kernel
theorem eX2_adds_218 : decode mX2_adds.2.1 218 = .ok (.iload_n 3, 1) := by decide +kernel
theorem eX2_adds_219 : decode mX2_adds.2.1 219 = .ok (.iconst 1, 1) := by decide +kernel
theorem eX2_adds_220 : decode mX2_adds.2.1 220 = .ok (.ishr, 1) := by decide +kernel
theorem eX2_adds_221 : decode mX2_adds.2.1 221 = .ok (.istore_n 3, 1) := by decide +kernel
theorem eX2_adds_222 : decode mX2_adds.2.1 222 = .ok (.goto 18, 3) := by decide +kernel
theorem eX2_adds_225 : decode mX2_adds.2.1 225 = .ok (.iload_n 2, 1) := by decide +kernel
theorem eX2_adds_226 : decode mX2_adds.2.1 226 = .ok (.iload 8, 2) := by decide +kernel
theorem eX2_adds_228 : decode mX2_adds.2.1 228 = .ok (.iload 7, 2) := by decide +kernel
theorem eX2_adds_230 : decode mX2_adds.2.1 230 = .ok (.imul, 1) := by decide +kernel
theorem eX2_adds_231 : decode mX2_adds.2.1 231 = .ok (.isub, 1) := by decide +kernel
theorem eX2_adds_232 : decode mX2_adds.2.1 232 = .ok (.istore_n 2, 1) := by decide +kernel
theorem eX2_adds_233 : decode mX2_adds.2.1 233 = .ok (.iload_n 3, 1) := by decide +kernel
theorem eX2_adds_234 : decode mX2_adds.2.1 234 = .ok (.iconst 1, 1) := by decide +kernel
theorem eX2_adds_235 : decode mX2_adds.2.1 235 = .ok (.ishr, 1) := by decide +kernel
theorem eX2_adds_236 : decode mX2_adds.2.1 236 = .ok (.istore_n 3, 1) := by decide +kernel
theorem eX2_adds_237 : decode mX2_adds.2.1 237 = .ok (.goto 3, 3) := by decide +kernel
theorem eX2_adds_240 : decode mX2_adds.2.1 240 = .ok (.iinc 4 1, 3) := by decide +kernel
theorem eX2_adds_243 : decode mX2_adds.2.1 243 = .ok (.goto (-236), 3) := by decide +kernel
theorem eX2_adds_246 : decode mX2_adds.2.1 246 = .ok (.iload_n 2, 1) := by decide +kernel
theorem eX2_adds_247 : decode mX2_adds.2.1 247 = .ok (.ireturn, 1) := by decide +kernel
theorem lp_X2_adds {s a b : Nat} {f L : Nat → Int32} {r : Int32} (hS : OA h s (.inr (2, [.ref a, .int r]))) (hA : OA h a (.inl (0, (n, .inl f)))) (hL : OA h b (.inl (0, (6, .inl L)))) (hn : n ≤ 100) (hQ : Q (some (.int (cAd f L n).1)) h) : ∀ (j i : Nat) (y x1 x2 : Int32) (o5 o6 o7 o8 : Option Value), j = n - i → i ≤ n → y = nI i → x1 = (cAd f L i).1 → x2 = (cAd f L i).2 → AW l G mX2_adds d 0 0 Q 0 0 h [some (.ref s), some (.ref b), some (.int x1), some (.int x2), some (.int y), o5, o6, o7, o8] [] 7 := by
  intro j
  induction j using Nat.strongRecOn with
  | _ j ih =>
    intro i y x1 x2 o5 o6 o7 o8 hj hi hy h1 h2
    subst hy h1 h2
    refine aw_iload (pc' := 9) eX2_adds_7 rfl rfl ?_
    refine aw_aload_n (pc' := 10) eX2_adds_9 rfl rfl trivial ?_
    refine aw_Oget (pc' := 13) (ci := 2) (kf := 0) (N := 2) (.ref a) hS eX2_adds_10 rfl rfl rfl inX2 (by decide) q575 rfl ?_
    refine aw_Alen (pc' := 14) hA eX2_adds_13 rfl (by decide) ?_
    refine aw_icmp_ge (pc' := 17) (tgt := 246) eX2_adds_14 rfl (by decide) (fun c_14 => ?_) (fun c_14 => ?_)
    · have c9 := ge_nI (by omega) (by omega) c_14
      obtain rfl : i = n := by omega
      refine aw_iload_n (pc' := 247) eX2_adds_246 rfl rfl ?_
      refine aw_ret (v := some (.int _)) eX2_adds_247 ⟨rfl, rfl⟩ (by omega) (by omega) rfl ?_
      exact hQ
    · have c9 := nge_nI (by omega) (by omega) c_14
      refine aw_aload_n (pc' := 18) eX2_adds_17 rfl rfl trivial ?_
      refine aw_Oget (pc' := 21) (ci := 2) (kf := 0) (N := 2) (.ref a) hS eX2_adds_18 rfl rfl rfl inX2 (by decide) q575 rfl ?_
      refine aw_iload (pc' := 23) eX2_adds_21 rfl rfl ?_
      refine aw_Ail (pc' := 24) i hA eX2_adds_23 rfl (show vp_in _ n from vp_in_nI (by omega) (by omega)) (nI_clamp (by omega)) ?_
      refine aw_iconst (pc' := 25) (v := 4) eX2_adds_24 rfl (by decide) ?_
      refine aw_ishr (pc' := 26) eX2_adds_25 rfl ?_
      refine aw_bipush (pc' := 28) (v := 15) eX2_adds_26 rfl (by decide) ?_
      refine aw_iand (pc' := 29) eX2_adds_28 rfl ?_
      refine aw_istore (pc' := 31) eX2_adds_29 rfl (by decide) ?_
      dsimp only [zst, zst2, zcut]
      refine aw_iload (pc' := 33) eX2_adds_31 rfl rfl ?_
      refine aw_aload_n (pc' := 34) eX2_adds_33 rfl rfl trivial ?_
      refine aw_Alen (pc' := 35) hL eX2_adds_34 rfl (by decide) ?_
      refine aw_icmp_ge (pc' := 38) (tgt := 45) eX2_adds_35 rfl (by decide) (fun c_35 => ?_) (fun c_35 => ?_)
      · refine aw_iconst (pc' := 46) (v := 0) eX2_adds_45 rfl (by decide) ?_
        refine aw_istore (pc' := 48) eX2_adds_46 rfl (by decide) ?_
        dsimp only [zst, zst2, zcut]
        refine aw_aload_n (pc' := 49) eX2_adds_48 rfl rfl trivial ?_
        refine aw_Oget (pc' := 52) (ci := 2) (kf := 0) (N := 2) (.ref a) hS eX2_adds_49 rfl rfl rfl inX2 (by decide) q575 rfl ?_
        refine aw_iload (pc' := 54) eX2_adds_52 rfl rfl ?_
        refine aw_Ail (pc' := 55) i hA eX2_adds_54 rfl (show vp_in _ n from vp_in_nI (by omega) (by omega)) (nI_clamp (by omega)) ?_
        refine aw_bipush (pc' := 57) (v := 8) eX2_adds_55 rfl (by decide) ?_
        refine aw_ishr (pc' := 58) eX2_adds_57 rfl ?_
        refine aw_istore (pc' := 60) eX2_adds_58 rfl (by decide) ?_
        dsimp only [zst, zst2, zcut]
        refine aw_iload_n (pc' := 61) eX2_adds_60 rfl rfl ?_
        refine aw_iconst (pc' := 62) (v := 1) eX2_adds_61 rfl (by decide) ?_
        refine aw_iand (pc' := 63) eX2_adds_62 rfl ?_
        refine aw_istore (pc' := 65) eX2_adds_63 rfl (by decide) ?_
        dsimp only [zst, zst2, zcut]
        refine aw_aload_n (pc' := 66) eX2_adds_65 rfl rfl trivial ?_
        refine aw_Oget (pc' := 69) (ci := 2) (kf := 0) (N := 2) (.ref a) hS eX2_adds_66 rfl rfl rfl inX2 (by decide) q575 rfl ?_
        refine aw_iload (pc' := 71) eX2_adds_69 rfl rfl ?_
        refine aw_Ail (pc' := 72) i hA eX2_adds_71 rfl (show vp_in _ n from vp_in_nI (by omega) (by omega)) (nI_clamp (by omega)) ?_
        refine aw_bipush (pc' := 74) (v := 15) eX2_adds_72 rfl (by decide) ?_
        refine aw_iand (pc' := 75) eX2_adds_74 rfl ?_
        refine aw_tsw (v := 0) (tgt := 120) eX2_adds_75 (by decide) (by decide) rfl (by decide) (fun c_75 => ?_) (fun n_75_0 => ?_)
        · refine aw_iload_n (pc' := 121) eX2_adds_120 rfl rfl ?_
          refine aw_iconst (pc' := 122) (v := 1) eX2_adds_121 rfl (by decide) ?_
          refine aw_ishl (pc' := 123) eX2_adds_122 rfl ?_
          refine aw_iload (pc' := 125) eX2_adds_123 rfl rfl ?_
          refine aw_iload (pc' := 127) eX2_adds_125 rfl rfl ?_
          refine aw_icmp_ge (pc' := 130) (tgt := 134) eX2_adds_127 rfl (by decide) (fun c_127 => ?_) (fun c_127 => ?_)
          · refine aw_iconst (pc' := 135) (v := 0) eX2_adds_134 rfl (by decide) ?_
            refine aw_ior (pc' := 136) eX2_adds_135 rfl ?_
            refine aw_istore_n (pc' := 137) eX2_adds_136 rfl (by decide) ?_
            dsimp only [zst, zst2, zcut]
            refine aw_goto eX2_adds_137 (by decide) (tgt := 240) ?_
            refine aw_iinc (pc' := 243) eX2_adds_240 rfl rfl rfl (by decide) ?_
            dsimp only [zst, zst2, zcut]
            refine aw_goto eX2_adds_243 (by decide) (tgt := 7) ?_
            refine ih (n - (i + 1)) (by omega) (i + 1) _ _ _ _ _ _ _ rfl (by omega) (nI_inc i) ?_ ?_
            all_goals rw [cAd, cA1, if_pos c_75, if_neg (show ¬ f i >>> (4 &&& 31) &&& 15 < 6 from by first | exact c_35 | exact Int32.not_lt.mpr c_35), if_neg (by first | exact c_127 | exact Int32.not_lt.mpr c_127)]
          · refine aw_iconst (pc' := 131) (v := 1) eX2_adds_130 rfl (by decide) ?_
            refine aw_goto eX2_adds_131 (by decide) (tgt := 135) ?_
            refine aw_ior (pc' := 136) eX2_adds_135 rfl ?_
            refine aw_istore_n (pc' := 137) eX2_adds_136 rfl (by decide) ?_
            dsimp only [zst, zst2, zcut]
            refine aw_goto eX2_adds_137 (by decide) (tgt := 240) ?_
            refine aw_iinc (pc' := 243) eX2_adds_240 rfl rfl rfl (by decide) ?_
            dsimp only [zst, zst2, zcut]
            refine aw_goto eX2_adds_243 (by decide) (tgt := 7) ?_
            refine ih (n - (i + 1)) (by omega) (i + 1) _ _ _ _ _ _ _ rfl (by omega) (nI_inc i) ?_ ?_
            all_goals rw [cAd, cA1, if_pos c_75, if_neg (show ¬ f i >>> (4 &&& 31) &&& 15 < 6 from by first | exact c_35 | exact Int32.not_lt.mpr c_35), if_pos (by first | exact c_127 | exact Int32.not_le.mp c_127 | exact Decidable.not_not.mp c_127)]
        refine aw_tsw (v := 1) (tgt := 140) eX2_adds_75 (by decide) (by decide) rfl (by decide) (fun c_75 => ?_) (fun n_75_1 => ?_)
        · refine aw_iload_n (pc' := 141) eX2_adds_140 rfl rfl ?_
          refine aw_iconst (pc' := 142) (v := 1) eX2_adds_141 rfl (by decide) ?_
          refine aw_ishl (pc' := 143) eX2_adds_142 rfl ?_
          refine aw_iload (pc' := 145) eX2_adds_143 rfl rfl ?_
          refine aw_iload (pc' := 147) eX2_adds_145 rfl rfl ?_
          refine aw_icmp_ne (pc' := 150) (tgt := 154) eX2_adds_147 rfl (by decide) (fun c_147 => ?_) (fun c_147 => ?_)
          · refine aw_iconst (pc' := 155) (v := 0) eX2_adds_154 rfl (by decide) ?_
            refine aw_ior (pc' := 156) eX2_adds_155 rfl ?_
            refine aw_istore_n (pc' := 157) eX2_adds_156 rfl (by decide) ?_
            dsimp only [zst, zst2, zcut]
            refine aw_goto eX2_adds_157 (by decide) (tgt := 240) ?_
            refine aw_iinc (pc' := 243) eX2_adds_240 rfl rfl rfl (by decide) ?_
            dsimp only [zst, zst2, zcut]
            refine aw_goto eX2_adds_243 (by decide) (tgt := 7) ?_
            refine ih (n - (i + 1)) (by omega) (i + 1) _ _ _ _ _ _ _ rfl (by omega) (nI_inc i) ?_ ?_
            all_goals rw [cAd, cA1, if_neg n_75_0, if_pos c_75, if_neg (show ¬ f i >>> (4 &&& 31) &&& 15 < 6 from by first | exact c_35 | exact Int32.not_lt.mpr c_35), if_neg (by first | exact c_147 | exact Int32.not_lt.mpr c_147)]
          · refine aw_iconst (pc' := 151) (v := 1) eX2_adds_150 rfl (by decide) ?_
            refine aw_goto eX2_adds_151 (by decide) (tgt := 155) ?_
            refine aw_ior (pc' := 156) eX2_adds_155 rfl ?_
            refine aw_istore_n (pc' := 157) eX2_adds_156 rfl (by decide) ?_
            dsimp only [zst, zst2, zcut]
            refine aw_goto eX2_adds_157 (by decide) (tgt := 240) ?_
            refine aw_iinc (pc' := 243) eX2_adds_240 rfl rfl rfl (by decide) ?_
            dsimp only [zst, zst2, zcut]
            refine aw_goto eX2_adds_243 (by decide) (tgt := 7) ?_
            refine ih (n - (i + 1)) (by omega) (i + 1) _ _ _ _ _ _ _ rfl (by omega) (nI_inc i) ?_ ?_
            all_goals rw [cAd, cA1, if_neg n_75_0, if_pos c_75, if_neg (show ¬ f i >>> (4 &&& 31) &&& 15 < 6 from by first | exact c_35 | exact Int32.not_lt.mpr c_35), if_pos (by first | exact c_147 | exact Int32.not_le.mp c_147 | exact Decidable.not_not.mp c_147)]
        refine aw_tsw (v := 2) (tgt := 160) eX2_adds_75 (by decide) (by decide) rfl (by decide) (fun c_75 => ?_) (fun n_75_2 => ?_)
        · refine aw_iload_n (pc' := 161) eX2_adds_160 rfl rfl ?_
          refine aw_iconst (pc' := 162) (v := 1) eX2_adds_161 rfl (by decide) ?_
          refine aw_ishl (pc' := 163) eX2_adds_162 rfl ?_
          refine aw_iload (pc' := 165) eX2_adds_163 rfl rfl ?_
          refine aw_iload (pc' := 167) eX2_adds_165 rfl rfl ?_
          refine aw_icmp_le (pc' := 170) (tgt := 174) eX2_adds_167 rfl (by decide) (fun c_167 => ?_) (fun c_167 => ?_)
          · refine aw_iconst (pc' := 175) (v := 0) eX2_adds_174 rfl (by decide) ?_
            refine aw_ior (pc' := 176) eX2_adds_175 rfl ?_
            refine aw_istore_n (pc' := 177) eX2_adds_176 rfl (by decide) ?_
            dsimp only [zst, zst2, zcut]
            refine aw_goto eX2_adds_177 (by decide) (tgt := 240) ?_
            refine aw_iinc (pc' := 243) eX2_adds_240 rfl rfl rfl (by decide) ?_
            dsimp only [zst, zst2, zcut]
            refine aw_goto eX2_adds_243 (by decide) (tgt := 7) ?_
            refine ih (n - (i + 1)) (by omega) (i + 1) _ _ _ _ _ _ _ rfl (by omega) (nI_inc i) ?_ ?_
            all_goals rw [cAd, cA1, if_neg n_75_0, if_neg n_75_1, if_pos c_75, if_neg (show ¬ f i >>> (4 &&& 31) &&& 15 < 6 from by first | exact c_35 | exact Int32.not_lt.mpr c_35), if_neg (by first | exact c_167 | exact Int32.not_lt.mpr c_167)]
          · refine aw_iconst (pc' := 171) (v := 1) eX2_adds_170 rfl (by decide) ?_
            refine aw_goto eX2_adds_171 (by decide) (tgt := 175) ?_
            refine aw_ior (pc' := 176) eX2_adds_175 rfl ?_
            refine aw_istore_n (pc' := 177) eX2_adds_176 rfl (by decide) ?_
            dsimp only [zst, zst2, zcut]
            refine aw_goto eX2_adds_177 (by decide) (tgt := 240) ?_
            refine aw_iinc (pc' := 243) eX2_adds_240 rfl rfl rfl (by decide) ?_
            dsimp only [zst, zst2, zcut]
            refine aw_goto eX2_adds_243 (by decide) (tgt := 7) ?_
            refine ih (n - (i + 1)) (by omega) (i + 1) _ _ _ _ _ _ _ rfl (by omega) (nI_inc i) ?_ ?_
            all_goals rw [cAd, cA1, if_neg n_75_0, if_neg n_75_1, if_pos c_75, if_neg (show ¬ f i >>> (4 &&& 31) &&& 15 < 6 from by first | exact c_35 | exact Int32.not_lt.mpr c_35), if_pos (by first | exact c_167 | exact Int32.not_le.mp c_167 | exact Decidable.not_not.mp c_167)]
        refine aw_tsw (v := 3) (tgt := 180) eX2_adds_75 (by decide) (by decide) rfl (by decide) (fun c_75 => ?_) (fun n_75_3 => ?_)
        · refine aw_iload_n (pc' := 181) eX2_adds_180 rfl rfl ?_
          refine aw_iconst (pc' := 182) (v := 1) eX2_adds_181 rfl (by decide) ?_
          refine aw_ixor (pc' := 183) eX2_adds_182 rfl ?_
          refine aw_istore_n (pc' := 184) eX2_adds_183 rfl (by decide) ?_
          dsimp only [zst, zst2, zcut]
          refine aw_goto eX2_adds_184 (by decide) (tgt := 240) ?_
          refine aw_iinc (pc' := 243) eX2_adds_240 rfl rfl rfl (by decide) ?_
          dsimp only [zst, zst2, zcut]
          refine aw_goto eX2_adds_243 (by decide) (tgt := 7) ?_
          refine ih (n - (i + 1)) (by omega) (i + 1) _ _ _ _ _ _ _ rfl (by omega) (nI_inc i) ?_ ?_
          all_goals rw [cAd, cA1, if_neg n_75_0, if_neg n_75_1, if_neg n_75_2, if_pos c_75]
        refine aw_tsw (v := 4) (tgt := 187) eX2_adds_75 (by decide) (by decide) rfl (by decide) (fun c_75 => ?_) (fun n_75_4 => ?_)
        · refine aw_iload_n (pc' := 188) eX2_adds_187 rfl rfl ?_
          refine aw_iconst (pc' := 189) (v := 1) eX2_adds_188 rfl (by decide) ?_
          refine aw_ishr (pc' := 190) eX2_adds_189 rfl ?_
          refine aw_iload (pc' := 192) eX2_adds_190 rfl rfl ?_
          refine aw_bipush (pc' := 194) (v := -2) eX2_adds_192 rfl (by decide) ?_
          refine aw_ior (pc' := 195) eX2_adds_194 rfl ?_
          refine aw_iand (pc' := 196) eX2_adds_195 rfl ?_
          refine aw_istore_n (pc' := 197) eX2_adds_196 rfl (by decide) ?_
          dsimp only [zst, zst2, zcut]
          refine aw_goto eX2_adds_197 (by decide) (tgt := 240) ?_
          refine aw_iinc (pc' := 243) eX2_adds_240 rfl rfl rfl (by decide) ?_
          dsimp only [zst, zst2, zcut]
          refine aw_goto eX2_adds_243 (by decide) (tgt := 7) ?_
          refine ih (n - (i + 1)) (by omega) (i + 1) _ _ _ _ _ _ _ rfl (by omega) (nI_inc i) ?_ ?_
          all_goals rw [cAd, cA1, if_neg n_75_0, if_neg n_75_1, if_neg n_75_2, if_neg n_75_3, if_pos c_75]
        refine aw_tsw (v := 5) (tgt := 200) eX2_adds_75 (by decide) (by decide) rfl (by decide) (fun c_75 => ?_) (fun n_75_5 => ?_)
        · refine aw_iload_n (pc' := 201) eX2_adds_200 rfl rfl ?_
          refine aw_iconst (pc' := 202) (v := 1) eX2_adds_201 rfl (by decide) ?_
          refine aw_ishr (pc' := 203) eX2_adds_202 rfl ?_
          refine aw_iload (pc' := 205) eX2_adds_203 rfl rfl ?_
          refine aw_ior (pc' := 206) eX2_adds_205 rfl ?_
          refine aw_istore_n (pc' := 207) eX2_adds_206 rfl (by decide) ?_
          dsimp only [zst, zst2, zcut]
          refine aw_goto eX2_adds_207 (by decide) (tgt := 240) ?_
          refine aw_iinc (pc' := 243) eX2_adds_240 rfl rfl rfl (by decide) ?_
          dsimp only [zst, zst2, zcut]
          refine aw_goto eX2_adds_243 (by decide) (tgt := 7) ?_
          refine ih (n - (i + 1)) (by omega) (i + 1) _ _ _ _ _ _ _ rfl (by omega) (nI_inc i) ?_ ?_
          all_goals rw [cAd, cA1, if_neg n_75_0, if_neg n_75_1, if_neg n_75_2, if_neg n_75_3, if_neg n_75_4, if_pos c_75]
        refine aw_tsw (v := 6) (tgt := 210) eX2_adds_75 (by decide) (by decide) rfl (by decide) (fun c_75 => ?_) (fun n_75_6 => ?_)
        · refine aw_iload_n (pc' := 211) eX2_adds_210 rfl rfl ?_
          refine aw_iload (pc' := 213) eX2_adds_211 rfl rfl ?_
          refine aw_iload (pc' := 215) eX2_adds_213 rfl rfl ?_
          refine aw_imul (pc' := 216) eX2_adds_215 rfl ?_
          refine aw_iadd (pc' := 217) eX2_adds_216 rfl ?_
          refine aw_istore_n (pc' := 218) eX2_adds_217 rfl (by decide) ?_
          dsimp only [zst, zst2, zcut]
          refine aw_iload_n (pc' := 219) eX2_adds_218 rfl rfl ?_
          refine aw_iconst (pc' := 220) (v := 1) eX2_adds_219 rfl (by decide) ?_
          refine aw_ishr (pc' := 221) eX2_adds_220 rfl ?_
          refine aw_istore_n (pc' := 222) eX2_adds_221 rfl (by decide) ?_
          dsimp only [zst, zst2, zcut]
          refine aw_goto eX2_adds_222 (by decide) (tgt := 240) ?_
          refine aw_iinc (pc' := 243) eX2_adds_240 rfl rfl rfl (by decide) ?_
          dsimp only [zst, zst2, zcut]
          refine aw_goto eX2_adds_243 (by decide) (tgt := 7) ?_
          refine ih (n - (i + 1)) (by omega) (i + 1) _ _ _ _ _ _ _ rfl (by omega) (nI_inc i) ?_ ?_
          all_goals rw [cAd, cA1, if_neg n_75_0, if_neg n_75_1, if_neg n_75_2, if_neg n_75_3, if_neg n_75_4, if_neg n_75_5, if_pos c_75]
        refine aw_tsw (v := 7) (tgt := 225) eX2_adds_75 (by decide) (by decide) rfl (by decide) (fun c_75 => ?_) (fun n_75_7 => ?_)
        · refine aw_iload_n (pc' := 226) eX2_adds_225 rfl rfl ?_
          refine aw_iload (pc' := 228) eX2_adds_226 rfl rfl ?_
          refine aw_iload (pc' := 230) eX2_adds_228 rfl rfl ?_
          refine aw_imul (pc' := 231) eX2_adds_230 rfl ?_
          refine aw_isub (pc' := 232) eX2_adds_231 rfl ?_
          refine aw_istore_n (pc' := 233) eX2_adds_232 rfl (by decide) ?_
          dsimp only [zst, zst2, zcut]
          refine aw_iload_n (pc' := 234) eX2_adds_233 rfl rfl ?_
          refine aw_iconst (pc' := 235) (v := 1) eX2_adds_234 rfl (by decide) ?_
          refine aw_ishr (pc' := 236) eX2_adds_235 rfl ?_
          refine aw_istore_n (pc' := 237) eX2_adds_236 rfl (by decide) ?_
          dsimp only [zst, zst2, zcut]
          refine aw_goto eX2_adds_237 (by decide) (tgt := 240) ?_
          refine aw_iinc (pc' := 243) eX2_adds_240 rfl rfl rfl (by decide) ?_
          dsimp only [zst, zst2, zcut]
          refine aw_goto eX2_adds_243 (by decide) (tgt := 7) ?_
          refine ih (n - (i + 1)) (by omega) (i + 1) _ _ _ _ _ _ _ rfl (by omega) (nI_inc i) ?_ ?_
          all_goals rw [cAd, cA1, if_neg n_75_0, if_neg n_75_1, if_neg n_75_2, if_neg n_75_3, if_neg n_75_4, if_neg n_75_5, if_neg n_75_6, if_pos c_75]
        refine aw_tswo (tgt := 240) eX2_adds_75 (by have g0 := zne n_75_0 (show ((0 : Int32)).toInt = 0 by decide); have g1 := zne n_75_1 (show ((1 : Int32)).toInt = 1 by decide); have g2 := zne n_75_2 (show ((2 : Int32)).toInt = 2 by decide); have g3 := zne n_75_3 (show ((3 : Int32)).toInt = 3 by decide); have g4 := zne n_75_4 (show ((4 : Int32)).toInt = 4 by decide); have g5 := zne n_75_5 (show ((5 : Int32)).toInt = 5 by decide); have g6 := zne n_75_6 (show ((6 : Int32)).toInt = 6 by decide); have g7 := zne n_75_7 (show ((7 : Int32)).toInt = 7 by decide); omega) (by decide) ?_
        refine aw_iinc (pc' := 243) eX2_adds_240 rfl rfl rfl (by decide) ?_
        dsimp only [zst, zst2, zcut]
        refine aw_goto eX2_adds_243 (by decide) (tgt := 7) ?_
        refine ih (n - (i + 1)) (by omega) (i + 1) _ _ _ _ _ _ _ rfl (by omega) (nI_inc i) ?_ ?_
        all_goals rw [cAd, cA1, if_neg n_75_0, if_neg n_75_1, if_neg n_75_2, if_neg n_75_3, if_neg n_75_4, if_neg n_75_5, if_neg n_75_6, if_neg n_75_7]
      · refine aw_aload_n (pc' := 39) eX2_adds_38 rfl rfl trivial ?_
        refine aw_iload (pc' := 41) eX2_adds_39 rfl rfl ?_
        refine aw_Ail (pc' := 42) _ hL eX2_adds_41 rfl (by obtain ⟨k, hk, e⟩ := and15 (f i >>> (4 &&& 31)); rw [e] at c_35 ⊢; exact vp_in_nI ((nI_ltI (b := 6) (by omega) (by omega)).mp (by first | exact c_35 | exact Int32.not_le.mp c_35)) (by omega)) rfl ?_
        refine aw_goto eX2_adds_42 (by decide) (tgt := 46) ?_
        refine aw_istore (pc' := 48) eX2_adds_46 rfl (by decide) ?_
        dsimp only [zst, zst2, zcut]
        refine aw_aload_n (pc' := 49) eX2_adds_48 rfl rfl trivial ?_
        refine aw_Oget (pc' := 52) (ci := 2) (kf := 0) (N := 2) (.ref a) hS eX2_adds_49 rfl rfl rfl inX2 (by decide) q575 rfl ?_
        refine aw_iload (pc' := 54) eX2_adds_52 rfl rfl ?_
        refine aw_Ail (pc' := 55) i hA eX2_adds_54 rfl (show vp_in _ n from vp_in_nI (by omega) (by omega)) (nI_clamp (by omega)) ?_
        refine aw_bipush (pc' := 57) (v := 8) eX2_adds_55 rfl (by decide) ?_
        refine aw_ishr (pc' := 58) eX2_adds_57 rfl ?_
        refine aw_istore (pc' := 60) eX2_adds_58 rfl (by decide) ?_
        dsimp only [zst, zst2, zcut]
        refine aw_iload_n (pc' := 61) eX2_adds_60 rfl rfl ?_
        refine aw_iconst (pc' := 62) (v := 1) eX2_adds_61 rfl (by decide) ?_
        refine aw_iand (pc' := 63) eX2_adds_62 rfl ?_
        refine aw_istore (pc' := 65) eX2_adds_63 rfl (by decide) ?_
        dsimp only [zst, zst2, zcut]
        refine aw_aload_n (pc' := 66) eX2_adds_65 rfl rfl trivial ?_
        refine aw_Oget (pc' := 69) (ci := 2) (kf := 0) (N := 2) (.ref a) hS eX2_adds_66 rfl rfl rfl inX2 (by decide) q575 rfl ?_
        refine aw_iload (pc' := 71) eX2_adds_69 rfl rfl ?_
        refine aw_Ail (pc' := 72) i hA eX2_adds_71 rfl (show vp_in _ n from vp_in_nI (by omega) (by omega)) (nI_clamp (by omega)) ?_
        refine aw_bipush (pc' := 74) (v := 15) eX2_adds_72 rfl (by decide) ?_
        refine aw_iand (pc' := 75) eX2_adds_74 rfl ?_
        refine aw_tsw (v := 0) (tgt := 120) eX2_adds_75 (by decide) (by decide) rfl (by decide) (fun c_75 => ?_) (fun n_75_0 => ?_)
        · refine aw_iload_n (pc' := 121) eX2_adds_120 rfl rfl ?_
          refine aw_iconst (pc' := 122) (v := 1) eX2_adds_121 rfl (by decide) ?_
          refine aw_ishl (pc' := 123) eX2_adds_122 rfl ?_
          refine aw_iload (pc' := 125) eX2_adds_123 rfl rfl ?_
          refine aw_iload (pc' := 127) eX2_adds_125 rfl rfl ?_
          refine aw_icmp_ge (pc' := 130) (tgt := 134) eX2_adds_127 rfl (by decide) (fun c_127 => ?_) (fun c_127 => ?_)
          · refine aw_iconst (pc' := 135) (v := 0) eX2_adds_134 rfl (by decide) ?_
            refine aw_ior (pc' := 136) eX2_adds_135 rfl ?_
            refine aw_istore_n (pc' := 137) eX2_adds_136 rfl (by decide) ?_
            dsimp only [zst, zst2, zcut]
            refine aw_goto eX2_adds_137 (by decide) (tgt := 240) ?_
            refine aw_iinc (pc' := 243) eX2_adds_240 rfl rfl rfl (by decide) ?_
            dsimp only [zst, zst2, zcut]
            refine aw_goto eX2_adds_243 (by decide) (tgt := 7) ?_
            refine ih (n - (i + 1)) (by omega) (i + 1) _ _ _ _ _ _ _ rfl (by omega) (nI_inc i) ?_ ?_
            all_goals rw [cAd, cA1, if_pos c_75, if_pos (show f i >>> (4 &&& 31) &&& 15 < 6 from by first | exact c_35 | exact Int32.not_le.mp c_35), if_neg (by first | exact c_127 | exact Int32.not_lt.mpr c_127)]
          · refine aw_iconst (pc' := 131) (v := 1) eX2_adds_130 rfl (by decide) ?_
            refine aw_goto eX2_adds_131 (by decide) (tgt := 135) ?_
            refine aw_ior (pc' := 136) eX2_adds_135 rfl ?_
            refine aw_istore_n (pc' := 137) eX2_adds_136 rfl (by decide) ?_
            dsimp only [zst, zst2, zcut]
            refine aw_goto eX2_adds_137 (by decide) (tgt := 240) ?_
            refine aw_iinc (pc' := 243) eX2_adds_240 rfl rfl rfl (by decide) ?_
            dsimp only [zst, zst2, zcut]
            refine aw_goto eX2_adds_243 (by decide) (tgt := 7) ?_
            refine ih (n - (i + 1)) (by omega) (i + 1) _ _ _ _ _ _ _ rfl (by omega) (nI_inc i) ?_ ?_
            all_goals rw [cAd, cA1, if_pos c_75, if_pos (show f i >>> (4 &&& 31) &&& 15 < 6 from by first | exact c_35 | exact Int32.not_le.mp c_35), if_pos (by first | exact c_127 | exact Int32.not_le.mp c_127 | exact Decidable.not_not.mp c_127)]
        refine aw_tsw (v := 1) (tgt := 140) eX2_adds_75 (by decide) (by decide) rfl (by decide) (fun c_75 => ?_) (fun n_75_1 => ?_)
        · refine aw_iload_n (pc' := 141) eX2_adds_140 rfl rfl ?_
          refine aw_iconst (pc' := 142) (v := 1) eX2_adds_141 rfl (by decide) ?_
          refine aw_ishl (pc' := 143) eX2_adds_142 rfl ?_
          refine aw_iload (pc' := 145) eX2_adds_143 rfl rfl ?_
          refine aw_iload (pc' := 147) eX2_adds_145 rfl rfl ?_
          refine aw_icmp_ne (pc' := 150) (tgt := 154) eX2_adds_147 rfl (by decide) (fun c_147 => ?_) (fun c_147 => ?_)
          · refine aw_iconst (pc' := 155) (v := 0) eX2_adds_154 rfl (by decide) ?_
            refine aw_ior (pc' := 156) eX2_adds_155 rfl ?_
            refine aw_istore_n (pc' := 157) eX2_adds_156 rfl (by decide) ?_
            dsimp only [zst, zst2, zcut]
            refine aw_goto eX2_adds_157 (by decide) (tgt := 240) ?_
            refine aw_iinc (pc' := 243) eX2_adds_240 rfl rfl rfl (by decide) ?_
            dsimp only [zst, zst2, zcut]
            refine aw_goto eX2_adds_243 (by decide) (tgt := 7) ?_
            refine ih (n - (i + 1)) (by omega) (i + 1) _ _ _ _ _ _ _ rfl (by omega) (nI_inc i) ?_ ?_
            all_goals rw [cAd, cA1, if_neg n_75_0, if_pos c_75, if_pos (show f i >>> (4 &&& 31) &&& 15 < 6 from by first | exact c_35 | exact Int32.not_le.mp c_35), if_neg (by first | exact c_147 | exact Int32.not_lt.mpr c_147)]
          · refine aw_iconst (pc' := 151) (v := 1) eX2_adds_150 rfl (by decide) ?_
            refine aw_goto eX2_adds_151 (by decide) (tgt := 155) ?_
            refine aw_ior (pc' := 156) eX2_adds_155 rfl ?_
            refine aw_istore_n (pc' := 157) eX2_adds_156 rfl (by decide) ?_
            dsimp only [zst, zst2, zcut]
            refine aw_goto eX2_adds_157 (by decide) (tgt := 240) ?_
            refine aw_iinc (pc' := 243) eX2_adds_240 rfl rfl rfl (by decide) ?_
            dsimp only [zst, zst2, zcut]
            refine aw_goto eX2_adds_243 (by decide) (tgt := 7) ?_
            refine ih (n - (i + 1)) (by omega) (i + 1) _ _ _ _ _ _ _ rfl (by omega) (nI_inc i) ?_ ?_
            all_goals rw [cAd, cA1, if_neg n_75_0, if_pos c_75, if_pos (show f i >>> (4 &&& 31) &&& 15 < 6 from by first | exact c_35 | exact Int32.not_le.mp c_35), if_pos (by first | exact c_147 | exact Int32.not_le.mp c_147 | exact Decidable.not_not.mp c_147)]
        refine aw_tsw (v := 2) (tgt := 160) eX2_adds_75 (by decide) (by decide) rfl (by decide) (fun c_75 => ?_) (fun n_75_2 => ?_)
        · refine aw_iload_n (pc' := 161) eX2_adds_160 rfl rfl ?_
          refine aw_iconst (pc' := 162) (v := 1) eX2_adds_161 rfl (by decide) ?_
          refine aw_ishl (pc' := 163) eX2_adds_162 rfl ?_
          refine aw_iload (pc' := 165) eX2_adds_163 rfl rfl ?_
          refine aw_iload (pc' := 167) eX2_adds_165 rfl rfl ?_
          refine aw_icmp_le (pc' := 170) (tgt := 174) eX2_adds_167 rfl (by decide) (fun c_167 => ?_) (fun c_167 => ?_)
          · refine aw_iconst (pc' := 175) (v := 0) eX2_adds_174 rfl (by decide) ?_
            refine aw_ior (pc' := 176) eX2_adds_175 rfl ?_
            refine aw_istore_n (pc' := 177) eX2_adds_176 rfl (by decide) ?_
            dsimp only [zst, zst2, zcut]
            refine aw_goto eX2_adds_177 (by decide) (tgt := 240) ?_
            refine aw_iinc (pc' := 243) eX2_adds_240 rfl rfl rfl (by decide) ?_
            dsimp only [zst, zst2, zcut]
            refine aw_goto eX2_adds_243 (by decide) (tgt := 7) ?_
            refine ih (n - (i + 1)) (by omega) (i + 1) _ _ _ _ _ _ _ rfl (by omega) (nI_inc i) ?_ ?_
            all_goals rw [cAd, cA1, if_neg n_75_0, if_neg n_75_1, if_pos c_75, if_pos (show f i >>> (4 &&& 31) &&& 15 < 6 from by first | exact c_35 | exact Int32.not_le.mp c_35), if_neg (by first | exact c_167 | exact Int32.not_lt.mpr c_167)]
          · refine aw_iconst (pc' := 171) (v := 1) eX2_adds_170 rfl (by decide) ?_
            refine aw_goto eX2_adds_171 (by decide) (tgt := 175) ?_
            refine aw_ior (pc' := 176) eX2_adds_175 rfl ?_
            refine aw_istore_n (pc' := 177) eX2_adds_176 rfl (by decide) ?_
            dsimp only [zst, zst2, zcut]
            refine aw_goto eX2_adds_177 (by decide) (tgt := 240) ?_
            refine aw_iinc (pc' := 243) eX2_adds_240 rfl rfl rfl (by decide) ?_
            dsimp only [zst, zst2, zcut]
            refine aw_goto eX2_adds_243 (by decide) (tgt := 7) ?_
            refine ih (n - (i + 1)) (by omega) (i + 1) _ _ _ _ _ _ _ rfl (by omega) (nI_inc i) ?_ ?_
            all_goals rw [cAd, cA1, if_neg n_75_0, if_neg n_75_1, if_pos c_75, if_pos (show f i >>> (4 &&& 31) &&& 15 < 6 from by first | exact c_35 | exact Int32.not_le.mp c_35), if_pos (by first | exact c_167 | exact Int32.not_le.mp c_167 | exact Decidable.not_not.mp c_167)]
        refine aw_tsw (v := 3) (tgt := 180) eX2_adds_75 (by decide) (by decide) rfl (by decide) (fun c_75 => ?_) (fun n_75_3 => ?_)
        · refine aw_iload_n (pc' := 181) eX2_adds_180 rfl rfl ?_
          refine aw_iconst (pc' := 182) (v := 1) eX2_adds_181 rfl (by decide) ?_
          refine aw_ixor (pc' := 183) eX2_adds_182 rfl ?_
          refine aw_istore_n (pc' := 184) eX2_adds_183 rfl (by decide) ?_
          dsimp only [zst, zst2, zcut]
          refine aw_goto eX2_adds_184 (by decide) (tgt := 240) ?_
          refine aw_iinc (pc' := 243) eX2_adds_240 rfl rfl rfl (by decide) ?_
          dsimp only [zst, zst2, zcut]
          refine aw_goto eX2_adds_243 (by decide) (tgt := 7) ?_
          refine ih (n - (i + 1)) (by omega) (i + 1) _ _ _ _ _ _ _ rfl (by omega) (nI_inc i) ?_ ?_
          all_goals rw [cAd, cA1, if_neg n_75_0, if_neg n_75_1, if_neg n_75_2, if_pos c_75]
        refine aw_tsw (v := 4) (tgt := 187) eX2_adds_75 (by decide) (by decide) rfl (by decide) (fun c_75 => ?_) (fun n_75_4 => ?_)
        · refine aw_iload_n (pc' := 188) eX2_adds_187 rfl rfl ?_
          refine aw_iconst (pc' := 189) (v := 1) eX2_adds_188 rfl (by decide) ?_
          refine aw_ishr (pc' := 190) eX2_adds_189 rfl ?_
          refine aw_iload (pc' := 192) eX2_adds_190 rfl rfl ?_
          refine aw_bipush (pc' := 194) (v := -2) eX2_adds_192 rfl (by decide) ?_
          refine aw_ior (pc' := 195) eX2_adds_194 rfl ?_
          refine aw_iand (pc' := 196) eX2_adds_195 rfl ?_
          refine aw_istore_n (pc' := 197) eX2_adds_196 rfl (by decide) ?_
          dsimp only [zst, zst2, zcut]
          refine aw_goto eX2_adds_197 (by decide) (tgt := 240) ?_
          refine aw_iinc (pc' := 243) eX2_adds_240 rfl rfl rfl (by decide) ?_
          dsimp only [zst, zst2, zcut]
          refine aw_goto eX2_adds_243 (by decide) (tgt := 7) ?_
          refine ih (n - (i + 1)) (by omega) (i + 1) _ _ _ _ _ _ _ rfl (by omega) (nI_inc i) ?_ ?_
          all_goals rw [cAd, cA1, if_neg n_75_0, if_neg n_75_1, if_neg n_75_2, if_neg n_75_3, if_pos c_75]
        refine aw_tsw (v := 5) (tgt := 200) eX2_adds_75 (by decide) (by decide) rfl (by decide) (fun c_75 => ?_) (fun n_75_5 => ?_)
        · refine aw_iload_n (pc' := 201) eX2_adds_200 rfl rfl ?_
          refine aw_iconst (pc' := 202) (v := 1) eX2_adds_201 rfl (by decide) ?_
          refine aw_ishr (pc' := 203) eX2_adds_202 rfl ?_
          refine aw_iload (pc' := 205) eX2_adds_203 rfl rfl ?_
          refine aw_ior (pc' := 206) eX2_adds_205 rfl ?_
          refine aw_istore_n (pc' := 207) eX2_adds_206 rfl (by decide) ?_
          dsimp only [zst, zst2, zcut]
          refine aw_goto eX2_adds_207 (by decide) (tgt := 240) ?_
          refine aw_iinc (pc' := 243) eX2_adds_240 rfl rfl rfl (by decide) ?_
          dsimp only [zst, zst2, zcut]
          refine aw_goto eX2_adds_243 (by decide) (tgt := 7) ?_
          refine ih (n - (i + 1)) (by omega) (i + 1) _ _ _ _ _ _ _ rfl (by omega) (nI_inc i) ?_ ?_
          all_goals rw [cAd, cA1, if_neg n_75_0, if_neg n_75_1, if_neg n_75_2, if_neg n_75_3, if_neg n_75_4, if_pos c_75]
        refine aw_tsw (v := 6) (tgt := 210) eX2_adds_75 (by decide) (by decide) rfl (by decide) (fun c_75 => ?_) (fun n_75_6 => ?_)
        · refine aw_iload_n (pc' := 211) eX2_adds_210 rfl rfl ?_
          refine aw_iload (pc' := 213) eX2_adds_211 rfl rfl ?_
          refine aw_iload (pc' := 215) eX2_adds_213 rfl rfl ?_
          refine aw_imul (pc' := 216) eX2_adds_215 rfl ?_
          refine aw_iadd (pc' := 217) eX2_adds_216 rfl ?_
          refine aw_istore_n (pc' := 218) eX2_adds_217 rfl (by decide) ?_
          dsimp only [zst, zst2, zcut]
          refine aw_iload_n (pc' := 219) eX2_adds_218 rfl rfl ?_
          refine aw_iconst (pc' := 220) (v := 1) eX2_adds_219 rfl (by decide) ?_
          refine aw_ishr (pc' := 221) eX2_adds_220 rfl ?_
          refine aw_istore_n (pc' := 222) eX2_adds_221 rfl (by decide) ?_
          dsimp only [zst, zst2, zcut]
          refine aw_goto eX2_adds_222 (by decide) (tgt := 240) ?_
          refine aw_iinc (pc' := 243) eX2_adds_240 rfl rfl rfl (by decide) ?_
          dsimp only [zst, zst2, zcut]
          refine aw_goto eX2_adds_243 (by decide) (tgt := 7) ?_
          refine ih (n - (i + 1)) (by omega) (i + 1) _ _ _ _ _ _ _ rfl (by omega) (nI_inc i) ?_ ?_
          all_goals rw [cAd, cA1, if_neg n_75_0, if_neg n_75_1, if_neg n_75_2, if_neg n_75_3, if_neg n_75_4, if_neg n_75_5, if_pos c_75]
        refine aw_tsw (v := 7) (tgt := 225) eX2_adds_75 (by decide) (by decide) rfl (by decide) (fun c_75 => ?_) (fun n_75_7 => ?_)
        · refine aw_iload_n (pc' := 226) eX2_adds_225 rfl rfl ?_
          refine aw_iload (pc' := 228) eX2_adds_226 rfl rfl ?_
          refine aw_iload (pc' := 230) eX2_adds_228 rfl rfl ?_
          refine aw_imul (pc' := 231) eX2_adds_230 rfl ?_
          refine aw_isub (pc' := 232) eX2_adds_231 rfl ?_
          refine aw_istore_n (pc' := 233) eX2_adds_232 rfl (by decide) ?_
          dsimp only [zst, zst2, zcut]
          refine aw_iload_n (pc' := 234) eX2_adds_233 rfl rfl ?_
          refine aw_iconst (pc' := 235) (v := 1) eX2_adds_234 rfl (by decide) ?_
          refine aw_ishr (pc' := 236) eX2_adds_235 rfl ?_
          refine aw_istore_n (pc' := 237) eX2_adds_236 rfl (by decide) ?_
          dsimp only [zst, zst2, zcut]
          refine aw_goto eX2_adds_237 (by decide) (tgt := 240) ?_
          refine aw_iinc (pc' := 243) eX2_adds_240 rfl rfl rfl (by decide) ?_
          dsimp only [zst, zst2, zcut]
          refine aw_goto eX2_adds_243 (by decide) (tgt := 7) ?_
          refine ih (n - (i + 1)) (by omega) (i + 1) _ _ _ _ _ _ _ rfl (by omega) (nI_inc i) ?_ ?_
          all_goals rw [cAd, cA1, if_neg n_75_0, if_neg n_75_1, if_neg n_75_2, if_neg n_75_3, if_neg n_75_4, if_neg n_75_5, if_neg n_75_6, if_pos c_75]
        refine aw_tswo (tgt := 240) eX2_adds_75 (by have g0 := zne n_75_0 (show ((0 : Int32)).toInt = 0 by decide); have g1 := zne n_75_1 (show ((1 : Int32)).toInt = 1 by decide); have g2 := zne n_75_2 (show ((2 : Int32)).toInt = 2 by decide); have g3 := zne n_75_3 (show ((3 : Int32)).toInt = 3 by decide); have g4 := zne n_75_4 (show ((4 : Int32)).toInt = 4 by decide); have g5 := zne n_75_5 (show ((5 : Int32)).toInt = 5 by decide); have g6 := zne n_75_6 (show ((6 : Int32)).toInt = 6 by decide); have g7 := zne n_75_7 (show ((7 : Int32)).toInt = 7 by decide); omega) (by decide) ?_
        refine aw_iinc (pc' := 243) eX2_adds_240 rfl rfl rfl (by decide) ?_
        dsimp only [zst, zst2, zcut]
        refine aw_goto eX2_adds_243 (by decide) (tgt := 7) ?_
        refine ih (n - (i + 1)) (by omega) (i + 1) _ _ _ _ _ _ _ rfl (by omega) (nI_inc i) ?_ ?_
        all_goals rw [cAd, cA1, if_neg n_75_0, if_neg n_75_1, if_neg n_75_2, if_neg n_75_3, if_neg n_75_4, if_neg n_75_5, if_neg n_75_6, if_neg n_75_7]
theorem c_X2_adds {s a b : Nat} {f L : Nat → Int32} {r : Int32} (hS : OA h s (.inr (2, [.ref a, .int r]))) (hA : OA h a (.inl (0, (n, .inl f)))) (hL : OA h b (.inl (0, (6, .inl L)))) (hn : n ≤ 100) (hd : 0 ≤ d) : Ct l G mX2_adds yX2_adds d 0 0 [.ref s, .ref b] h (fun r h' => r = some (.int (cAd f L n).1) ∧ h' = h) := by
  refine ct_of (lv := [some (.ref s), some (.ref b), none, none, none, none, none, none, none]) (by decide +kernel) rfl (fun z => by cases z) (fun _ => rfl) (fun _ => Nat.le_of_ble_eq_true rfl) ?_
  refine aw_iconst (pc' := 1) (v := 0) eX2_adds_0 rfl (by decide) ?_
  refine aw_istore_n (pc' := 2) eX2_adds_1 rfl (by decide) ?_
  dsimp only [zst, zst2, zcut]
  refine aw_iconst (pc' := 3) (v := 0) eX2_adds_2 rfl (by decide) ?_
  refine aw_istore_n (pc' := 4) eX2_adds_3 rfl (by decide) ?_
  dsimp only [zst, zst2, zcut]
  refine aw_iconst (pc' := 5) (v := 0) eX2_adds_4 rfl (by decide) ?_
  refine aw_istore (pc' := 7) eX2_adds_5 rfl (by decide) ?_
  dsimp only [zst, zst2, zcut]
  exact lp_X2_adds hS hA hL hn ⟨rfl, rfl⟩ n 0 _ _ _ _ _ _ _ (by omega) (by omega) rfl rfl rfl
end C1
