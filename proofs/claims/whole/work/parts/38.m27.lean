/-! the model: acts by kinds -/
section M27
variable {l : Launch} {G : GT} {u : Nat} {U U1 : MS} {d n m t : Nat} {g : Nat → Int32} {h : Hp} {Q : Option Value → Hp → Prop}

abbrev mX7_all : MT := (RX7, cX7_all, 4, (some .int), false)
theorem eX7_all_0 : decode mX7_all.2.1 0 = .ok (.aload_n 0, 1) := by decide +kernel
theorem eX7_all_1 : decode mX7_all.2.1 1 = .ok (.aload_n 0, 1) := by decide +kernel
theorem eX7_all_2 : decode mX7_all.2.1 2 = .ok (.iload_n 1, 1) := by decide +kernel
theorem eX7_all_3 : decode mX7_all.2.1 3 = .ok (.iconst 0, 1) := by decide +kernel
theorem eX7_all_4 : decode mX7_all.2.1 4 = .ok (.invokevirtual 84, 3) := by decide +kernel
theorem eX7_all_7 : decode mX7_all.2.1 7 = .ok (.iload_n 1, 1) := by decide +kernel
theorem eX7_all_8 : decode mX7_all.2.1 8 = .ok (.iload_n 2, 1) := by decide +kernel
theorem eX7_all_9 : decode mX7_all.2.1 9 = .ok (.iload_n 3, 1) := by decide +kernel
theorem eX7_all_10 : decode mX7_all.2.1 10 = .ok (.invokevirtual 239, 3) := by decide +kernel
theorem eX7_all_13 : decode mX7_all.2.1 13 = .ok (.ireturn, 1) := by decide +kernel
abbrev mX7_byKind : MT := (RX7, cX7_byKind, 7, (some .int), false)
theorem eX7_byKind_0 : decode mX7_byKind.2.1 0 = .ok (.iload_n 1, 1) := by decide +kernel
theorem eX7_byKind_1 : decode mX7_byKind.2.1 1 = .ok (.istore 5, 2) := by decide +kernel
theorem eX7_byKind_3 : decode mX7_byKind.2.1 3 = .ok (.aload_n 0, 1) := by decide +kernel
theorem eX7_byKind_4 : decode mX7_byKind.2.1 4 = .ok (.getfield 53, 3) := by decide +kernel
theorem eX7_byKind_7 : decode mX7_byKind.2.1 7 = .ok (.iconst 3, 1) := by decide +kernel
theorem eX7_byKind_8 : decode mX7_byKind.2.1 8 = .ok (.iload 5, 2) := by decide +kernel
theorem eX7_byKind_10 : decode mX7_byKind.2.1 10 = .ok (.imul, 1) := by decide +kernel
theorem eX7_byKind_11 : decode mX7_byKind.2.1 11 = .ok (.iload_n 3, 1) := by decide +kernel
theorem eX7_byKind_12 : decode mX7_byKind.2.1 12 = .ok (.iadd, 1) := by decide +kernel
theorem eX7_byKind_13 : decode mX7_byKind.2.1 13 = .ok (.iaload, 1) := by decide +kernel
theorem eX7_byKind_14 : decode mX7_byKind.2.1 14 = .ok (.ifCond .ne 15, 3) := by decide +kernel
theorem eX7_byKind_17 : decode mX7_byKind.2.1 17 = .ok (.aload_n 0, 1) := by decide +kernel
theorem eX7_byKind_18 : decode mX7_byKind.2.1 18 = .ok (.getfield 50, 3) := by decide +kernel
theorem eX7_byKind_21 : decode mX7_byKind.2.1 21 = .ok (.iload 5, 2) := by decide +kernel
theorem eX7_byKind_23 : decode mX7_byKind.2.1 23 = .ok (.iaload, 1) := by decide +kernel
theorem eX7_byKind_24 : decode mX7_byKind.2.1 24 = .ok (.istore 5, 2) := by decide +kernel
theorem eX7_byKind_26 : decode mX7_byKind.2.1 26 = .ok (.goto (-23), 3) := by decide +kernel
theorem eX7_byKind_29 : decode mX7_byKind.2.1 29 = .ok (.aload_n 0, 1) := by decide +kernel
theorem eX7_byKind_30 : decode mX7_byKind.2.1 30 = .ok (.getfield 50, 3) := by decide +kernel
theorem eX7_byKind_33 : decode mX7_byKind.2.1 33 = .ok (.iload 5, 2) := by decide +kernel
theorem eX7_byKind_35 : decode mX7_byKind.2.1 35 = .ok (.iaload, 1) := by decide +kernel
theorem eX7_byKind_36 : decode mX7_byKind.2.1 36 = .ok (.istore 6, 2) := by decide +kernel
theorem eX7_byKind_38 : decode mX7_byKind.2.1 38 = .ok (.aload_n 0, 1) := by decide +kernel
theorem eX7_byKind_39 : decode mX7_byKind.2.1 39 = .ok (.aload_n 0, 1) := by decide +kernel
theorem eX7_byKind_40 : decode mX7_byKind.2.1 40 = .ok (.getfield 53, 3) := by decide +kernel
theorem eX7_byKind_43 : decode mX7_byKind.2.1 43 = .ok (.iconst 3, 1) := by decide +kernel
theorem eX7_byKind_44 : decode mX7_byKind.2.1 44 = .ok (.iload 5, 2) := by decide +kernel
theorem eX7_byKind_46 : decode mX7_byKind.2.1 46 = .ok (.imul, 1) := by decide +kernel
theorem eX7_byKind_47 : decode mX7_byKind.2.1 47 = .ok (.iload_n 3, 1) := by decide +kernel
theorem eX7_byKind_48 : decode mX7_byKind.2.1 48 = .ok (.iadd, 1) := by decide +kernel
theorem eX7_byKind_49 : decode mX7_byKind.2.1 49 = .ok (.iaload, 1) := by decide +kernel
theorem eX7_byKind_50 : decode mX7_byKind.2.1 50 = .ok (.invokevirtual 243, 3) := by decide +kernel
theorem eX7_byKind_53 : decode mX7_byKind.2.1 53 = .ok (.lookupswitch 228 #[(10, 91), (11, 96), (12, 112), (20, 123), (30, 137), (40, 150), (50, 169), (51, 181), (60, 194), (70, 207)], 91) := by decide +kernel
theorem eX7_byKind_144 : decode mX7_byKind.2.1 144 = .ok (.iload 4, 2) := by decide +kernel
theorem eX7_byKind_146 : decode mX7_byKind.2.1 146 = .ok (.iload_n 2, 1) := by decide +kernel
theorem eX7_byKind_147 : decode mX7_byKind.2.1 147 = .ok (.iadd, 1) := by decide +kernel
theorem eX7_byKind_148 : decode mX7_byKind.2.1 148 = .ok (.ireturn, 1) := by decide +kernel
theorem eX7_byKind_149 : decode mX7_byKind.2.1 149 = .ok (.aload_n 0, 1) := by decide +kernel
theorem eX7_byKind_150 : decode mX7_byKind.2.1 150 = .ok (.iload_n 2, 1) := by decide +kernel
theorem eX7_byKind_151 : decode mX7_byKind.2.1 151 = .ok (.iconst 0, 1) := by decide +kernel
theorem eX7_byKind_152 : decode mX7_byKind.2.1 152 = .ok (.iload 4, 2) := by decide +kernel
theorem eX7_byKind_154 : decode mX7_byKind.2.1 154 = .ok (.invokevirtual 246, 3) := by decide +kernel
theorem eX7_byKind_157 : decode mX7_byKind.2.1 157 = .ok (.aload_n 0, 1) := by decide +kernel
theorem eX7_byKind_158 : decode mX7_byKind.2.1 158 = .ok (.iload_n 2, 1) := by decide +kernel
theorem eX7_byKind_159 : decode mX7_byKind.2.1 159 = .ok (.iconst 1, 1) := by decide +kernel
theorem eX7_byKind_160 : decode mX7_byKind.2.1 160 = .ok (.invokevirtual 84, 3) := by decide +kernel
theorem eX7_byKind_163 : decode mX7_byKind.2.1 163 = .ok (.isub, 1) := by decide +kernel
theorem eX7_byKind_164 : decode mX7_byKind.2.1 164 = .ok (.ireturn, 1) := by decide +kernel
theorem eX7_byKind_165 : decode mX7_byKind.2.1 165 = .ok (.aload_n 0, 1) := by decide +kernel
theorem eX7_byKind_166 : decode mX7_byKind.2.1 166 = .ok (.iload_n 2, 1) := by decide +kernel
theorem eX7_byKind_167 : decode mX7_byKind.2.1 167 = .ok (.iconst 1, 1) := by decide +kernel
theorem eX7_byKind_168 : decode mX7_byKind.2.1 168 = .ok (.iload 4, 2) := by decide +kernel
theorem eX7_byKind_170 : decode mX7_byKind.2.1 170 = .ok (.invokevirtual 246, 3) := by decide +kernel
theorem eX7_byKind_173 : decode mX7_byKind.2.1 173 = .ok (.iconst 2, 1) := by decide +kernel
theorem eX7_byKind_174 : decode mX7_byKind.2.1 174 = .ok (.imul, 1) := by decide +kernel
theorem eX7_byKind_175 : decode mX7_byKind.2.1 175 = .ok (.ireturn, 1) := by decide +kernel
theorem eX7_byKind_176 : decode mX7_byKind.2.1 176 = .ok (.aload_n 0, 1) := by decide +kernel
theorem eX7_byKind_177 : decode mX7_byKind.2.1 177 = .ok (.iload 6, 2) := by decide +kernel
theorem eX7_byKind_179 : decode mX7_byKind.2.1 179 = .ok (.iload_n 2, 1) := by decide +kernel
theorem eX7_byKind_180 : decode mX7_byKind.2.1 180 = .ok (.iconst 1, 1) := by decide +kernel
theorem eX7_byKind_181 : decode mX7_byKind.2.1 181 = .ok (.iload 4, 2) := by decide +kernel
theorem eX7_byKind_183 : decode mX7_byKind.2.1 183 = .ok (.invokevirtual 239, 3) := by decide +kernel
theorem eX7_byKind_186 : decode mX7_byKind.2.1 186 = .ok (.bipush 6, 2) := by decide +kernel
theorem eX7_byKind_188 : decode mX7_byKind.2.1 188 = .ok (.ixor, 1) := by decide +kernel
theorem eX7_byKind_189 : decode mX7_byKind.2.1 189 = .ok (.ireturn, 1) := by decide +kernel
theorem eX7_byKind_190 : decode mX7_byKind.2.1 190 = .ok (.aload_n 0, 1) := by decide +kernel
theorem eX7_byKind_191 : decode mX7_byKind.2.1 191 = .ok (.iload 6, 2) := by decide +kernel
theorem eX7_byKind_193 : decode mX7_byKind.2.1 193 = .ok (.iload_n 2, 1) := by decide +kernel
theorem eX7_byKind_194 : decode mX7_byKind.2.1 194 = .ok (.iconst 0, 1) := by decide +kernel
theorem eX7_byKind_195 : decode mX7_byKind.2.1 195 = .ok (.iload 4, 2) := by decide +kernel
theorem eX7_byKind_197 : decode mX7_byKind.2.1 197 = .ok (.iconst 3, 1) := by decide +kernel
theorem eX7_byKind_198 : decode mX7_byKind.2.1 198 = .ok (.imul, 1) := by decide +kernel
theorem eX7_byKind_199 : decode mX7_byKind.2.1 199 = .ok (.invokevirtual 239, 3) := by decide +kernel
theorem eX7_byKind_202 : decode mX7_byKind.2.1 202 = .ok (.ireturn, 1) := by decide +kernel
theorem eX7_byKind_203 : decode mX7_byKind.2.1 203 = .ok (.aload_n 0, 1) := by decide +kernel
theorem eX7_byKind_204 : decode mX7_byKind.2.1 204 = .ok (.iload 6, 2) := by decide +kernel
theorem eX7_byKind_206 : decode mX7_byKind.2.1 206 = .ok (.iload_n 2, 1) := by decide +kernel
theorem eX7_byKind_207 : decode mX7_byKind.2.1 207 = .ok (.iconst 2, 1) := by decide +kernel
theorem eX7_byKind_208 : decode mX7_byKind.2.1 208 = .ok (.iload 4, 2) := by decide +kernel
theorem eX7_byKind_210 : decode mX7_byKind.2.1 210 = .ok (.invokevirtual 239, 3) := by decide +kernel
theorem eX7_byKind_213 : decode mX7_byKind.2.1 213 = .ok (.aload_n 0, 1) := by decide +kernel
theorem eX7_byKind_214 : decode mX7_byKind.2.1 214 = .ok (.iload_n 2, 1) := by decide +kernel
theorem eX7_byKind_215 : decode mX7_byKind.2.1 215 = .ok (.iconst 1, 1) := by decide +kernel
theorem eX7_byKind_216 : decode mX7_byKind.2.1 216 = .ok (.iconst 1, 1) := by decide +kernel
theorem eX7_byKind_217 : decode mX7_byKind.2.1 217 = .ok (.invokevirtual 246, 3) := by decide +kernel
theorem eX7_byKind_220 : decode mX7_byKind.2.1 220 = .ok (.iadd, 1) := by decide +kernel
theorem eX7_byKind_221 : decode mX7_byKind.2.1 221 = .ok (.ireturn, 1) := by decide +kernel
theorem eX7_byKind_222 : decode mX7_byKind.2.1 222 = .ok (.aload_n 0, 1) := by decide +kernel
theorem eX7_byKind_223 : decode mX7_byKind.2.1 223 = .ok (.iload 6, 2) := by decide +kernel
theorem eX7_byKind_225 : decode mX7_byKind.2.1 225 = .ok (.iload_n 2, 1) := by decide +kernel
theorem eX7_byKind_226 : decode mX7_byKind.2.1 226 = .ok (.iconst 0, 1) := by decide +kernel
theorem eX7_byKind_227 : decode mX7_byKind.2.1 227 = .ok (.iload 4, 2) := by decide +kernel
theorem eX7_byKind_229 : decode mX7_byKind.2.1 229 = .ok (.invokevirtual 239, 3) := by decide +kernel
theorem eX7_byKind_232 : decode mX7_byKind.2.1 232 = .ok (.ineg, 1) := by decide +kernel
theorem eX7_byKind_233 : decode mX7_byKind.2.1 233 = .ok (.ireturn, 1) := by decide +kernel
theorem eX7_byKind_234 : decode mX7_byKind.2.1 234 = .ok (.aload_n 0, 1) := by decide +kernel
theorem eX7_byKind_235 : decode mX7_byKind.2.1 235 = .ok (.iload 6, 2) := by decide +kernel
theorem eX7_byKind_237 : decode mX7_byKind.2.1 237 = .ok (.iload_n 2, 1) := by decide +kernel
theorem eX7_byKind_238 : decode mX7_byKind.2.1 238 = .ok (.iconst 1, 1) := by decide +kernel
theorem eX7_byKind_239 : decode mX7_byKind.2.1 239 = .ok (.iload 4, 2) := by decide +kernel
theorem eX7_byKind_241 : decode mX7_byKind.2.1 241 = .ok (.iconst 1, 1) := by decide +kernel
theorem eX7_byKind_242 : decode mX7_byKind.2.1 242 = .ok (.iadd, 1) := by decide +kernel
theorem eX7_byKind_243 : decode mX7_byKind.2.1 243 = .ok (.invokevirtual 239, 3) := by decide +kernel
theorem eX7_byKind_246 : decode mX7_byKind.2.1 246 = .ok (.ireturn, 1) := by decide +kernel
theorem eX7_byKind_247 : decode mX7_byKind.2.1 247 = .ok (.aload_n 0, 1) := by decide +kernel
theorem eX7_byKind_248 : decode mX7_byKind.2.1 248 = .ok (.iload 6, 2) := by decide +kernel
theorem eX7_byKind_250 : decode mX7_byKind.2.1 250 = .ok (.iload_n 2, 1) := by decide +kernel
theorem eX7_byKind_251 : decode mX7_byKind.2.1 251 = .ok (.iconst 2, 1) := by decide +kernel
theorem eX7_byKind_252 : decode mX7_byKind.2.1 252 = .ok (.iload 4, 2) := by decide +kernel
theorem eX7_byKind_254 : decode mX7_byKind.2.1 254 = .ok (.iload_n 2, 1) := by decide +kernel
theorem eX7_byKind_255 : decode mX7_byKind.2.1 255 = .ok (.isub, 1) := by decide +kernel
theorem eX7_byKind_256 : decode mX7_byKind.2.1 256 = .ok (.invokevirtual 239, 3) := by decide +kernel
theorem eX7_byKind_259 : decode mX7_byKind.2.1 259 = .ok (.ireturn, 1) := by decide +kernel
theorem eX7_byKind_260 : decode mX7_byKind.2.1 260 = .ok (.aload_n 0, 1) := by decide +kernel
theorem eX7_byKind_261 : decode mX7_byKind.2.1 261 = .ok (.iload 6, 2) := by decide +kernel
theorem eX7_byKind_263 : decode mX7_byKind.2.1 263 = .ok (.iload_n 2, 1) := by decide +kernel
theorem eX7_byKind_264 : decode mX7_byKind.2.1 264 = .ok (.iconst 1, 1) := by decide +kernel
theorem eX7_byKind_265 : decode mX7_byKind.2.1 265 = .ok (.iload 4, 2) := by decide +kernel
theorem eX7_byKind_267 : decode mX7_byKind.2.1 267 = .ok (.invokevirtual 239, 3) := by decide +kernel
theorem eX7_byKind_270 : decode mX7_byKind.2.1 270 = .ok (.aload_n 0, 1) := by decide +kernel
theorem eX7_byKind_271 : decode mX7_byKind.2.1 271 = .ok (.iload 6, 2) := by decide +kernel
theorem eX7_byKind_273 : decode mX7_byKind.2.1 273 = .ok (.iload_n 2, 1) := by decide +kernel
theorem eX7_byKind_274 : decode mX7_byKind.2.1 274 = .ok (.iconst 0, 1) := by decide +kernel
theorem eX7_byKind_275 : decode mX7_byKind.2.1 275 = .ok (.iconst 2, 1) := by decide +kernel
theorem eX7_byKind_276 : decode mX7_byKind.2.1 276 = .ok (.invokevirtual 239, 3) := by decide +kernel
theorem eX7_byKind_279 : decode mX7_byKind.2.1 279 = .ok (.iadd, 1) := by decide +kernel
theorem eX7_byKind_280 : decode mX7_byKind.2.1 280 = .ok (.ireturn, 1) := by decide +kernel
theorem eX7_byKind_281 : decode mX7_byKind.2.1 281 = .ok (.aload_n 0, 1) := by decide +kernel
theorem eX7_byKind_282 : decode mX7_byKind.2.1 282 = .ok (.iload 6, 2) := by decide +kernel
theorem eX7_byKind_284 : decode mX7_byKind.2.1 284 = .ok (.iload_n 2, 1) := by decide +kernel
theorem eX7_byKind_285 : decode mX7_byKind.2.1 285 = .ok (.iconst 0, 1) := by decide +kernel
theorem eX7_byKind_286 : decode mX7_byKind.2.1 286 = .ok (.iload 4, 2) := by decide +kernel
theorem eX7_byKind_288 : decode mX7_byKind.2.1 288 = .ok (.invokevirtual 239, 3) := by decide +kernel
theorem eX7_byKind_291 : decode mX7_byKind.2.1 291 = .ok (.aload_n 0, 1) := by decide +kernel
theorem eX7_byKind_292 : decode mX7_byKind.2.1 292 = .ok (.iload_n 2, 1) := by decide +kernel
theorem eX7_byKind_293 : decode mX7_byKind.2.1 293 = .ok (.iconst 1, 1) := by decide +kernel
theorem eX7_byKind_294 : decode mX7_byKind.2.1 294 = .ok (.invokevirtual 84, 3) := by decide +kernel
theorem eX7_byKind_297 : decode mX7_byKind.2.1 297 = .ok (.ixor, 1) := by decide +kernel
theorem eX7_byKind_298 : decode mX7_byKind.2.1 298 = .ok (.ireturn, 1) := by decide +kernel
/-- by fuel: byKind does what aRun says -/
def AC (l : Launch) (G : GT) (u : Nat) (U : MS) (K : Nat) (v : Int32) (i f : Nat) : Prop := ∀ (d k a : Nat) (x : Int32) (s : TS) (h : Hp), k < 7 → a < 3 → 7 * a + k < f → s.2 + pw f ≤ 1000000000 → MAt h u (mtr U s) → 2 * f + 2 ≤ d → Ct l G mX7_byKind yX7_byKind d 0 0 [.ref u, .int (nI k), .int (nI i), .int (nI a), .int x] h (fun r h' => r = some (.int (aRun K v (nI i) f k a x s).1) ∧ MAt h' u (mtr U (aRun K v (nI i) f k a x s).2) ∧ Same u 19 h h')
theorem c_X7_all {K i f a : Nat} {v x : Int32} {s : TS} (hK : K < 7) (hi : i < 6) (eK : U.1 1 (10 * i) = nI K) (ih : AC l G u U K v i f) (ha : a < 3) (hf : 7 * a + K < f) (hs : s.2 + pw f ≤ 1000000000) (hM : MAt h u (mtr U s)) (hd2 : 2 * f + 3 ≤ d) (hd : 0 ≤ d) : Ct l G mX7_all yX7_all d 0 0 [.ref u, .int (nI i), .int (nI a), .int x] h (fun r h' => r = some (.int (aRun K v (nI i) f K a x s).1) ∧ MAt h' u (mtr U (aRun K v (nI i) f K a x s).2) ∧ Same u 19 h h') := by
  refine ct_of (lv := [some (.ref u), some (.int (nI i)), some (.int (nI a)), some (.int x)]) (by decide +kernel) rfl (fun z => by cases z) (fun _ => rfl) (fun _ => Nat.le_of_ble_eq_true rfl) ?_
  refine aw_aload_n (pc' := 1) eX7_all_0 rfl rfl trivial ?_
  refine aw_aload_n (pc' := 2) eX7_all_1 rfl rfl trivial ?_
  refine aw_iload_n (pc' := 3) eX7_all_2 rfl rfl ?_
  refine aw_iconst (pc' := 4) (v := 0) eX7_all_3 rfl (by decide) ?_
  refine aw_callv (pc' := 7) (nn := 2) (c_one (d := d - 1) hM i 0 (by omega) (by omega)) eX7_all_4 rfl ⟨q901, q904, q62⟩ q903 q22 ⟨rfl, by decide +kernel, by decide +kernel, by decide +kernel⟩ rfl (by rw [hM.2.1]; exact ⟨rfl, rfl⟩) rfl ⟨by omega, by decide⟩ ⟨by omega, by omega⟩ rfl (Nat.le_of_ble_eq_true rfl) (fun v1 h2 hq3 => ?_)
  obtain ⟨rfl, rfl⟩ := hq3
  dsimp only [Option.toList, List.cons_append, List.nil_append]
  rw [show (mtr U s).1 1 (10 * i + 0) = nI K from eK]
  refine aw_iload_n (pc' := 8) eX7_all_7 rfl rfl ?_
  refine aw_iload_n (pc' := 9) eX7_all_8 rfl rfl ?_
  refine aw_iload_n (pc' := 10) eX7_all_9 rfl rfl ?_
  refine aw_callv (pc' := 13) (nn := 4) (ih (d - 1) K a x s _ hK ha hf hs hM (by omega)) eX7_all_10 rfl ⟨q1122, q1125, q62⟩ q1124 q52 ⟨rfl, by decide +kernel, by decide +kernel, by decide +kernel⟩ rfl (by rw [hM.2.1]; exact ⟨rfl, rfl⟩) rfl ⟨by omega, by decide⟩ ⟨by omega, by omega⟩ rfl (Nat.le_of_ble_eq_true rfl) (fun v6 h7 hq8 => ?_)
  obtain ⟨rfl, hM4, hs5⟩ := hq8
  dsimp only [Option.toList, List.cons_append, List.nil_append]
  refine aw_ret (v := some (.int _)) eX7_all_13 ⟨rfl, rfl⟩ (by omega) (by omega) rfl ?_
  exact ⟨rfl, hM4, hs5⟩
theorem ix3k {k a : Nat} (hk : k < 7) (ha : a < 3) : (3 * nI k + nI a).toNatClampNeg = 3 * k + a ∧ vp_in (3 * nI k + nI a) 21 := by
  have e : 3 * nI k + nI a = nI (3 * k + a) := nI_muladd 3 k a
  rw [e]
  exact ⟨nI_clamp (by omega), vp_in_nI (by omega) (by omega)⟩
theorem lp_X7_byKind {s : TS} (hM : MAt h u (mtr U s)) (hA : mA U) (hB : mBo U) {k0 a : Nat} (ha : a < 3) {o1 : Option Value} {x2 x4 : Int32} {o6 : Option Value} (hQ : AW l G mX7_byKind d 0 0 Q 0 0 h [some (.ref u), o1, some (.int x2), some (.int (nI a)), some (.int x4), some (.int (nI (ow k0 a))), o6] [] 29) : ∀ k, k < 7 → ow k a = ow k0 a → AW l G mX7_byKind d 0 0 Q 0 0 h [some (.ref u), o1, some (.int x2), some (.int (nI a)), some (.int x4), some (.int (nI k)), o6] [] 3 := by
  intro k
  induction k using Nat.strongRecOn with
  | _ k ih =>
    intro hk ho
    refine aw_aload_n (pc' := 4) eX7_byKind_3 rfl rfl trivial ?_
    refine aw_Mref (pc' := 7) (kf := 21) 13 hM eX7_byKind_4 rfl (by decide) rfl q810 ?_
    refine aw_iconst (pc' := 8) (v := 3) eX7_byKind_7 rfl (by decide) ?_
    refine aw_iload (pc' := 10) eX7_byKind_8 rfl rfl ?_
    refine aw_imul (pc' := 11) eX7_byKind_10 rfl ?_
    refine aw_iload_n (pc' := 12) eX7_byKind_11 rfl rfl ?_
    refine aw_iadd (pc' := 13) eX7_byKind_12 rfl ?_
    refine aw_MaldC (pc' := 14) 13 (3 * k + a) hM eX7_byKind_13 rfl (by decide) (show vp_in _ 21 from (ix3k (k := k) (a := a) (by omega) (by omega)).2) (ix3k (k := k) (a := a) (by omega) (by omega)).1 ?_
    refine aw_if_ne (pc' := 17) (tgt := 29) eX7_byKind_14 rfl (by decide) (fun c_14 => ?_) (fun c_14 => ?_)
    · have c14 : ¬ mB (3 * k + a) = 0 := by rw [show (mtr U s).1 13 (3 * k + a) = mB (3 * k + a) from hB _ (by omega)] at c_14; exact c_14
      have e := (ow_all k hk a ha).2.1 c14
      rw [← ho, e] at hQ
      exact hQ
    · refine aw_aload_n (pc' := 18) eX7_byKind_17 rfl rfl trivial ?_
      refine aw_Mref (pc' := 21) (kf := 20) 12 hM eX7_byKind_18 rfl (by decide) rfl q809 ?_
      refine aw_iload (pc' := 23) eX7_byKind_21 rfl rfl ?_
      refine aw_MaldC (pc' := 24) 12 k hM eX7_byKind_23 rfl (by decide) (show vp_in _ 7 from vp_in_nI (by omega) (by omega)) (nI_clamp (by omega)) ?_
      refine aw_istore (pc' := 26) eX7_byKind_24 rfl (by decide) ?_
      dsimp only [zst, zst2, zcut]
      refine aw_goto eX7_byKind_26 (by decide) (tgt := 3) ?_
      have c14 : mB (3 * k + a) = 0 := by rw [show (mtr U s).1 13 (3 * k + a) = mB (3 * k + a) from hB _ (by omega)] at c_14; first | exact c_14 | exact Decidable.not_not.mp c_14
      obtain ⟨e1, e2, e3⟩ := (ow_all k hk a ha).1 c14
      rw [show (mtr U s).1 12 k = nI (mAp k) from (hA k hk).trans e2]
      exact ih (mAp k) e1 (by omega) (by rw [← e3]; exact ho)
theorem step_AC {K i f : Nat} {v : Int32} (hA : mA U) (hB : mBo U) (hK : K < 7) (hi : i < 6) (eK : U.1 1 (10 * i) = nI K) (ev : U.1 1 (10 * i + 1) = v) (ih : AC l G u U K v i f) : AC l G u U K v i (f + 1) := by
  intro d k a x s h hk ha hf hs hM hd
  rw [pw] at hs
  have hpp := pw_pos f
  have ow7 := (ow_all k hk a ha).2.2.2
  refine ct_of (lv := [some (.ref u), some (.int (nI k)), some (.int (nI i)), some (.int (nI a)), some (.int x), none, none]) (by decide +kernel) rfl (fun z => by cases z) (fun _ => rfl) (fun _ => Nat.le_of_ble_eq_true rfl) ?_
  refine aw_iload_n (pc' := 1) eX7_byKind_0 rfl rfl ?_
  refine aw_istore (pc' := 3) eX7_byKind_1 rfl (by decide) ?_
  dsimp only [zst, zst2, zcut]
  refine lp_X7_byKind hM hA hB (k0 := k) ha ?_ k hk rfl
  refine aw_aload_n (pc' := 30) eX7_byKind_29 rfl rfl trivial ?_
  refine aw_Mref (pc' := 33) (kf := 20) 12 hM eX7_byKind_30 rfl (by decide) rfl q809 ?_
  refine aw_iload (pc' := 35) eX7_byKind_33 rfl rfl ?_
  refine aw_MaldC (pc' := 36) 12 (ow k a) hM eX7_byKind_35 rfl (by decide) (show vp_in _ 7 from vp_in_nI ow7 (by omega)) (nI_clamp (by omega)) ?_
  refine aw_istore (pc' := 38) eX7_byKind_36 rfl (by decide) ?_
  dsimp only [zst, zst2, zcut]
  refine aw_aload_n (pc' := 39) eX7_byKind_38 rfl rfl trivial ?_
  refine aw_aload_n (pc' := 40) eX7_byKind_39 rfl rfl trivial ?_
  refine aw_Mref (pc' := 43) (kf := 21) 13 hM eX7_byKind_40 rfl (by decide) rfl q810 ?_
  refine aw_iconst (pc' := 44) (v := 3) eX7_byKind_43 rfl (by decide) ?_
  refine aw_iload (pc' := 46) eX7_byKind_44 rfl rfl ?_
  refine aw_imul (pc' := 47) eX7_byKind_46 rfl ?_
  refine aw_iload_n (pc' := 48) eX7_byKind_47 rfl rfl ?_
  refine aw_iadd (pc' := 49) eX7_byKind_48 rfl ?_
  refine aw_MaldC (pc' := 50) 13 (3 * ow k a + a) hM eX7_byKind_49 rfl (by decide) (show vp_in _ 21 from (ix3k (k := ow k a) (a := a) ow7 ha).2) (ix3k (k := ow k a) (a := a) ow7 ha).1 ?_
  rw [show (mtr U s).1 13 (3 * ow k a + a) = tabB (3 * k + a) from (hB _ (by omega)).trans (ow_all k hk a ha).2.2.1]
  refine aw_callv (pc' := 53) (nn := 1) (c_X7_body (d := d - 1) hM (by have := pw_pos f; omega) _ (by omega)) eX7_byKind_50 rfl ⟨q1126, q1129, q62⟩ q1128 q53 ⟨rfl, by decide +kernel, by decide +kernel, by decide +kernel⟩ rfl (by rw [hM.2.1]; exact ⟨rfl, rfl⟩) rfl ⟨by omega, by decide⟩ ⟨by omega, by omega⟩ rfl (Nat.le_of_ble_eq_true rfl) (fun v3 h4 hq5 => ?_)
  obtain ⟨rfl, hM1, hs2⟩ := hq5
  dsimp only [Option.toList, List.cons_append, List.nil_append]
  refine aw_lsw (v := 10) (off := 91) (tgt := 144) eX7_byKind_53 (by decide) (by decide) (by decide) (fun c_53 => ?_) (fun n_53_0 => ?_)
  · have bt := bt_all k hk a ha (r := _) (by rw [btR, if_pos c_53])
    dsimp only at bt
    refine aw_iload (pc' := 146) eX7_byKind_144 rfl rfl ?_
    refine aw_iload_n (pc' := 147) eX7_byKind_146 rfl rfl ?_
    refine aw_iadd (pc' := 148) eX7_byKind_147 rfl ?_
    refine aw_ret (v := some (.int _)) eX7_byKind_148 ⟨rfl, rfl⟩ (by omega) (by omega) rfl ?_
    refine ⟨?_, ?_, hs2⟩
    · rw [aRun, if_pos c_53]
    · rw [aRun, if_pos c_53]
      exact hM1
  refine aw_lsw (v := 11) (off := 96) (tgt := 149) eX7_byKind_53 (by decide) (by decide) (by decide) (fun c_53 => ?_) (fun n_53_1 => ?_)
  · have bt := bt_all k hk a ha (r := _) (by rw [btR, if_neg n_53_0, if_pos c_53])
    dsimp only at bt
    refine aw_aload_n (pc' := 150) eX7_byKind_149 rfl rfl trivial ?_
    refine aw_iload_n (pc' := 151) eX7_byKind_150 rfl rfl ?_
    refine aw_iconst (pc' := 152) (v := 0) eX7_byKind_151 rfl (by decide) ?_
    refine aw_iload (pc' := 154) eX7_byKind_152 rfl rfl ?_
    refine aw_callv (pc' := 157) (nn := 3) (c_X7_all (d := d - 1) (K := K) (i := i) (f := f) (a := 0) (v := v) (x := x) (s := (tPush (tabB (3 * k + a)) s)) hK hi eK ih (by omega) (by omega) (by have := pw_pos f; first | (show s.2 + 1 + pw f ≤ 1000000000; omega) | (have := aRun_le (K := K) (v := v) (i := nI i) f 0 2 x (tPush (tabB (3 * k + a)) s); have : (tPush (tabB (3 * k + a)) s).2 = s.2 + 1 := rfl; omega)) hM1 (by omega) (by omega)) eX7_byKind_154 rfl ⟨q1118, q1121, q62⟩ q1120 q51 ⟨rfl, by decide +kernel, by decide +kernel, by decide +kernel⟩ rfl (by rw [hM1.2.1]; exact ⟨rfl, rfl⟩) rfl ⟨by omega, by decide⟩ ⟨by omega, by omega⟩ rfl (Nat.le_of_ble_eq_true rfl) (fun v8 h9 hq10 => ?_)
    obtain ⟨rfl, hM6, hs7⟩ := hq10
    have hT11 := hs2.tr hs7
    dsimp only [Option.toList, List.cons_append, List.nil_append]
    refine aw_aload_n (pc' := 158) eX7_byKind_157 rfl rfl trivial ?_
    refine aw_iload_n (pc' := 159) eX7_byKind_158 rfl rfl ?_
    refine aw_iconst (pc' := 160) (v := 1) eX7_byKind_159 rfl (by decide) ?_
    refine aw_callv (pc' := 163) (nn := 2) (c_one (d := d - 1) hM6 i 1 (by omega) (by omega)) eX7_byKind_160 rfl ⟨q901, q904, q62⟩ q903 q22 ⟨rfl, by decide +kernel, by decide +kernel, by decide +kernel⟩ rfl (by rw [hM6.2.1]; exact ⟨rfl, rfl⟩) rfl ⟨by omega, by decide⟩ ⟨by omega, by omega⟩ rfl (Nat.le_of_ble_eq_true rfl) (fun v12 h13 hq14 => ?_)
    obtain ⟨rfl, rfl⟩ := hq14
    dsimp only [Option.toList, List.cons_append, List.nil_append]
    refine aw_isub (pc' := 164) eX7_byKind_163 rfl ?_
    refine aw_ret (v := some (.int _)) eX7_byKind_164 ⟨rfl, rfl⟩ (by omega) (by omega) rfl ?_
    refine ⟨?_, ?_, hT11⟩
    · rw [aRun, if_neg n_53_0, if_pos c_53]
      rw [show (mtr U _).1 1 (10 * i + 1) = v from ev]
    · rw [aRun, if_neg n_53_0, if_pos c_53]
      exact hM6
  refine aw_lsw (v := 12) (off := 112) (tgt := 165) eX7_byKind_53 (by decide) (by decide) (by decide) (fun c_53 => ?_) (fun n_53_2 => ?_)
  · have bt := bt_all k hk a ha (r := _) (by rw [btR, if_neg n_53_0, if_neg n_53_1, if_pos c_53])
    dsimp only at bt
    refine aw_aload_n (pc' := 166) eX7_byKind_165 rfl rfl trivial ?_
    refine aw_iload_n (pc' := 167) eX7_byKind_166 rfl rfl ?_
    refine aw_iconst (pc' := 168) (v := 1) eX7_byKind_167 rfl (by decide) ?_
    refine aw_iload (pc' := 170) eX7_byKind_168 rfl rfl ?_
    refine aw_callv (pc' := 173) (nn := 3) (c_X7_all (d := d - 1) (K := K) (i := i) (f := f) (a := 1) (v := v) (x := x) (s := (tPush (tabB (3 * k + a)) s)) hK hi eK ih (by omega) (by omega) (by have := pw_pos f; first | (show s.2 + 1 + pw f ≤ 1000000000; omega) | (have := aRun_le (K := K) (v := v) (i := nI i) f 0 2 x (tPush (tabB (3 * k + a)) s); have : (tPush (tabB (3 * k + a)) s).2 = s.2 + 1 := rfl; omega)) hM1 (by omega) (by omega)) eX7_byKind_170 rfl ⟨q1118, q1121, q62⟩ q1120 q51 ⟨rfl, by decide +kernel, by decide +kernel, by decide +kernel⟩ rfl (by rw [hM1.2.1]; exact ⟨rfl, rfl⟩) rfl ⟨by omega, by decide⟩ ⟨by omega, by omega⟩ rfl (Nat.le_of_ble_eq_true rfl) (fun v17 h18 hq19 => ?_)
    obtain ⟨rfl, hM15, hs16⟩ := hq19
    have hT20 := hs2.tr hs16
    dsimp only [Option.toList, List.cons_append, List.nil_append]
    refine aw_iconst (pc' := 174) (v := 2) eX7_byKind_173 rfl (by decide) ?_
    refine aw_imul (pc' := 175) eX7_byKind_174 rfl ?_
    refine aw_ret (v := some (.int _)) eX7_byKind_175 ⟨rfl, rfl⟩ (by omega) (by omega) rfl ?_
    refine ⟨?_, ?_, hT20⟩
    · rw [aRun, if_neg n_53_0, if_neg n_53_1, if_pos c_53]
    · rw [aRun, if_neg n_53_0, if_neg n_53_1, if_pos c_53]
      exact hM15
  refine aw_lsw (v := 20) (off := 123) (tgt := 176) eX7_byKind_53 (by decide) (by decide) (by decide) (fun c_53 => ?_) (fun n_53_3 => ?_)
  · have bt := bt_all k hk a ha (r := _) (by rw [btR, if_neg n_53_0, if_neg n_53_1, if_neg n_53_2, if_pos c_53])
    dsimp only at bt
    rw [show (mtr U s).1 12 (ow k a) = nI 0 from (hA _ ow7).trans (bt.2.2 (by decide))]
    refine aw_aload_n (pc' := 177) eX7_byKind_176 rfl rfl trivial ?_
    refine aw_iload (pc' := 179) eX7_byKind_177 rfl rfl ?_
    refine aw_iload_n (pc' := 180) eX7_byKind_179 rfl rfl ?_
    refine aw_iconst (pc' := 181) (v := 1) eX7_byKind_180 rfl (by decide) ?_
    refine aw_iload (pc' := 183) eX7_byKind_181 rfl rfl ?_
    refine aw_callv (pc' := 186) (nn := 4) (ih (d - 1) 0 1 x (tPush (tabB (3 * k + a)) s) _ (by omega) (by omega) (by omega) (by have := pw_pos f; first | (show s.2 + 1 + pw f ≤ 1000000000; omega) | (have := aRun_le (K := K) (v := v) (i := nI i) f 3 1 x (tPush (tabB (3 * k + a)) s); have : (tPush (tabB (3 * k + a)) s).2 = s.2 + 1 := rfl; omega)) hM1 (by omega)) eX7_byKind_183 rfl ⟨q1122, q1125, q62⟩ q1124 q52 ⟨rfl, by decide +kernel, by decide +kernel, by decide +kernel⟩ rfl (by rw [hM1.2.1]; exact ⟨rfl, rfl⟩) rfl ⟨by omega, by decide⟩ ⟨by omega, by omega⟩ rfl (Nat.le_of_ble_eq_true rfl) (fun v23 h24 hq25 => ?_)
    obtain ⟨rfl, hM21, hs22⟩ := hq25
    have hT26 := hs2.tr hs22
    dsimp only [Option.toList, List.cons_append, List.nil_append]
    refine aw_bipush (pc' := 188) (v := 6) eX7_byKind_186 rfl (by decide) ?_
    refine aw_ixor (pc' := 189) eX7_byKind_188 rfl ?_
    refine aw_ret (v := some (.int _)) eX7_byKind_189 ⟨rfl, rfl⟩ (by omega) (by omega) rfl ?_
    refine ⟨?_, ?_, hT26⟩
    · rw [aRun, if_neg n_53_0, if_neg n_53_1, if_neg n_53_2, if_pos c_53]
    · rw [aRun, if_neg n_53_0, if_neg n_53_1, if_neg n_53_2, if_pos c_53]
      exact hM21
  refine aw_lsw (v := 30) (off := 137) (tgt := 190) eX7_byKind_53 (by decide) (by decide) (by decide) (fun c_53 => ?_) (fun n_53_4 => ?_)
  · have bt := bt_all k hk a ha (r := _) (by rw [btR, if_neg n_53_0, if_neg n_53_1, if_neg n_53_2, if_neg n_53_3, if_pos c_53])
    dsimp only at bt
    rw [show (mtr U s).1 12 (ow k a) = nI 0 from (hA _ ow7).trans (bt.2.2 (by decide))]
    refine aw_aload_n (pc' := 191) eX7_byKind_190 rfl rfl trivial ?_
    refine aw_iload (pc' := 193) eX7_byKind_191 rfl rfl ?_
    refine aw_iload_n (pc' := 194) eX7_byKind_193 rfl rfl ?_
    refine aw_iconst (pc' := 195) (v := 0) eX7_byKind_194 rfl (by decide) ?_
    refine aw_iload (pc' := 197) eX7_byKind_195 rfl rfl ?_
    refine aw_iconst (pc' := 198) (v := 3) eX7_byKind_197 rfl (by decide) ?_
    refine aw_imul (pc' := 199) eX7_byKind_198 rfl ?_
    refine aw_callv (pc' := 202) (nn := 4) (ih (d - 1) 0 0 (x * 3) (tPush (tabB (3 * k + a)) s) _ (by omega) (by omega) (by omega) (by have := pw_pos f; first | (show s.2 + 1 + pw f ≤ 1000000000; omega) | (have := aRun_le (K := K) (v := v) (i := nI i) f 3 1 x (tPush (tabB (3 * k + a)) s); have : (tPush (tabB (3 * k + a)) s).2 = s.2 + 1 := rfl; omega)) hM1 (by omega)) eX7_byKind_199 rfl ⟨q1122, q1125, q62⟩ q1124 q52 ⟨rfl, by decide +kernel, by decide +kernel, by decide +kernel⟩ rfl (by rw [hM1.2.1]; exact ⟨rfl, rfl⟩) rfl ⟨by omega, by decide⟩ ⟨by omega, by omega⟩ rfl (Nat.le_of_ble_eq_true rfl) (fun v29 h30 hq31 => ?_)
    obtain ⟨rfl, hM27, hs28⟩ := hq31
    have hT32 := hs2.tr hs28
    dsimp only [Option.toList, List.cons_append, List.nil_append]
    refine aw_ret (v := some (.int _)) eX7_byKind_202 ⟨rfl, rfl⟩ (by omega) (by omega) rfl ?_
    refine ⟨?_, ?_, hT32⟩
    · rw [aRun, if_neg n_53_0, if_neg n_53_1, if_neg n_53_2, if_neg n_53_3, if_pos c_53]
    · rw [aRun, if_neg n_53_0, if_neg n_53_1, if_neg n_53_2, if_neg n_53_3, if_pos c_53]
      exact hM27
  refine aw_lsw (v := 40) (off := 150) (tgt := 203) eX7_byKind_53 (by decide) (by decide) (by decide) (fun c_53 => ?_) (fun n_53_5 => ?_)
  · have bt := bt_all k hk a ha (r := _) (by rw [btR, if_neg n_53_0, if_neg n_53_1, if_neg n_53_2, if_neg n_53_3, if_neg n_53_4, if_pos c_53])
    dsimp only at bt
    rw [show (mtr U s).1 12 (ow k a) = nI 0 from (hA _ ow7).trans (bt.2.2 (by decide))]
    refine aw_aload_n (pc' := 204) eX7_byKind_203 rfl rfl trivial ?_
    refine aw_iload (pc' := 206) eX7_byKind_204 rfl rfl ?_
    refine aw_iload_n (pc' := 207) eX7_byKind_206 rfl rfl ?_
    refine aw_iconst (pc' := 208) (v := 2) eX7_byKind_207 rfl (by decide) ?_
    refine aw_iload (pc' := 210) eX7_byKind_208 rfl rfl ?_
    refine aw_callv (pc' := 213) (nn := 4) (ih (d - 1) 0 2 x (tPush (tabB (3 * k + a)) s) _ (by omega) (by omega) (by omega) (by have := pw_pos f; first | (show s.2 + 1 + pw f ≤ 1000000000; omega) | (have := aRun_le (K := K) (v := v) (i := nI i) f 3 1 x (tPush (tabB (3 * k + a)) s); have : (tPush (tabB (3 * k + a)) s).2 = s.2 + 1 := rfl; omega)) hM1 (by omega)) eX7_byKind_210 rfl ⟨q1122, q1125, q62⟩ q1124 q52 ⟨rfl, by decide +kernel, by decide +kernel, by decide +kernel⟩ rfl (by rw [hM1.2.1]; exact ⟨rfl, rfl⟩) rfl ⟨by omega, by decide⟩ ⟨by omega, by omega⟩ rfl (Nat.le_of_ble_eq_true rfl) (fun v35 h36 hq37 => ?_)
    obtain ⟨rfl, hM33, hs34⟩ := hq37
    have hT38 := hs2.tr hs34
    dsimp only [Option.toList, List.cons_append, List.nil_append]
    refine aw_aload_n (pc' := 214) eX7_byKind_213 rfl rfl trivial ?_
    refine aw_iload_n (pc' := 215) eX7_byKind_214 rfl rfl ?_
    refine aw_iconst (pc' := 216) (v := 1) eX7_byKind_215 rfl (by decide) ?_
    refine aw_iconst (pc' := 217) (v := 1) eX7_byKind_216 rfl (by decide) ?_
    refine aw_callv (pc' := 220) (nn := 3) (c_X7_all (d := d - 1) (K := K) (i := i) (f := f) (a := 1) (v := v) (x := 1) (s := (aRun K v (nI i) f 0 2 x (tPush (tabB (3 * k + a)) s)).2) hK hi eK ih (by omega) (by omega) (by have := pw_pos f; first | (show s.2 + 1 + pw f ≤ 1000000000; omega) | (have := aRun_le (K := K) (v := v) (i := nI i) f 0 2 x (tPush (tabB (3 * k + a)) s); have : (tPush (tabB (3 * k + a)) s).2 = s.2 + 1 := rfl; omega)) hM33 (by omega) (by omega)) eX7_byKind_217 rfl ⟨q1118, q1121, q62⟩ q1120 q51 ⟨rfl, by decide +kernel, by decide +kernel, by decide +kernel⟩ rfl (by rw [hM33.2.1]; exact ⟨rfl, rfl⟩) rfl ⟨by omega, by decide⟩ ⟨by omega, by omega⟩ rfl (Nat.le_of_ble_eq_true rfl) (fun v41 h42 hq43 => ?_)
    obtain ⟨rfl, hM39, hs40⟩ := hq43
    have hT44 := hT38.tr hs40
    dsimp only [Option.toList, List.cons_append, List.nil_append]
    refine aw_iadd (pc' := 221) eX7_byKind_220 rfl ?_
    refine aw_ret (v := some (.int _)) eX7_byKind_221 ⟨rfl, rfl⟩ (by omega) (by omega) rfl ?_
    refine ⟨?_, ?_, hT44⟩
    · rw [aRun, if_neg n_53_0, if_neg n_53_1, if_neg n_53_2, if_neg n_53_3, if_neg n_53_4, if_pos c_53]
    · rw [aRun, if_neg n_53_0, if_neg n_53_1, if_neg n_53_2, if_neg n_53_3, if_neg n_53_4, if_pos c_53]
      exact hM39
  refine aw_lsw (v := 50) (off := 169) (tgt := 222) eX7_byKind_53 (by decide) (by decide) (by decide) (fun c_53 => ?_) (fun n_53_6 => ?_)
  · have bt := bt_all k hk a ha (r := _) (by rw [btR, if_neg n_53_0, if_neg n_53_1, if_neg n_53_2, if_neg n_53_3, if_neg n_53_4, if_neg n_53_5, if_pos c_53])
    dsimp only at bt
    rw [show (mtr U s).1 12 (ow k a) = nI 1 from (hA _ ow7).trans (bt.2.2 (by decide))]
    refine aw_aload_n (pc' := 223) eX7_byKind_222 rfl rfl trivial ?_
    refine aw_iload (pc' := 225) eX7_byKind_223 rfl rfl ?_
    refine aw_iload_n (pc' := 226) eX7_byKind_225 rfl rfl ?_
    refine aw_iconst (pc' := 227) (v := 0) eX7_byKind_226 rfl (by decide) ?_
    refine aw_iload (pc' := 229) eX7_byKind_227 rfl rfl ?_
    refine aw_callv (pc' := 232) (nn := 4) (ih (d - 1) 1 0 x (tPush (tabB (3 * k + a)) s) _ (by omega) (by omega) (by omega) (by have := pw_pos f; first | (show s.2 + 1 + pw f ≤ 1000000000; omega) | (have := aRun_le (K := K) (v := v) (i := nI i) f 3 1 x (tPush (tabB (3 * k + a)) s); have : (tPush (tabB (3 * k + a)) s).2 = s.2 + 1 := rfl; omega)) hM1 (by omega)) eX7_byKind_229 rfl ⟨q1122, q1125, q62⟩ q1124 q52 ⟨rfl, by decide +kernel, by decide +kernel, by decide +kernel⟩ rfl (by rw [hM1.2.1]; exact ⟨rfl, rfl⟩) rfl ⟨by omega, by decide⟩ ⟨by omega, by omega⟩ rfl (Nat.le_of_ble_eq_true rfl) (fun v47 h48 hq49 => ?_)
    obtain ⟨rfl, hM45, hs46⟩ := hq49
    have hT50 := hs2.tr hs46
    dsimp only [Option.toList, List.cons_append, List.nil_append]
    refine aw_ineg (pc' := 233) eX7_byKind_232 rfl ?_
    refine aw_ret (v := some (.int _)) eX7_byKind_233 ⟨rfl, rfl⟩ (by omega) (by omega) rfl ?_
    refine ⟨?_, ?_, hT50⟩
    · rw [aRun, if_neg n_53_0, if_neg n_53_1, if_neg n_53_2, if_neg n_53_3, if_neg n_53_4, if_neg n_53_5, if_pos c_53]
    · rw [aRun, if_neg n_53_0, if_neg n_53_1, if_neg n_53_2, if_neg n_53_3, if_neg n_53_4, if_neg n_53_5, if_pos c_53]
      exact hM45
  refine aw_lsw (v := 51) (off := 181) (tgt := 234) eX7_byKind_53 (by decide) (by decide) (by decide) (fun c_53 => ?_) (fun n_53_7 => ?_)
  · have bt := bt_all k hk a ha (r := _) (by rw [btR, if_neg n_53_0, if_neg n_53_1, if_neg n_53_2, if_neg n_53_3, if_neg n_53_4, if_neg n_53_5, if_neg n_53_6, if_pos c_53])
    dsimp only at bt
    rw [show (mtr U s).1 12 (ow k a) = nI 1 from (hA _ ow7).trans (bt.2.2 (by decide))]
    refine aw_aload_n (pc' := 235) eX7_byKind_234 rfl rfl trivial ?_
    refine aw_iload (pc' := 237) eX7_byKind_235 rfl rfl ?_
    refine aw_iload_n (pc' := 238) eX7_byKind_237 rfl rfl ?_
    refine aw_iconst (pc' := 239) (v := 1) eX7_byKind_238 rfl (by decide) ?_
    refine aw_iload (pc' := 241) eX7_byKind_239 rfl rfl ?_
    refine aw_iconst (pc' := 242) (v := 1) eX7_byKind_241 rfl (by decide) ?_
    refine aw_iadd (pc' := 243) eX7_byKind_242 rfl ?_
    refine aw_callv (pc' := 246) (nn := 4) (ih (d - 1) 1 1 (x + 1) (tPush (tabB (3 * k + a)) s) _ (by omega) (by omega) (by omega) (by have := pw_pos f; first | (show s.2 + 1 + pw f ≤ 1000000000; omega) | (have := aRun_le (K := K) (v := v) (i := nI i) f 3 1 x (tPush (tabB (3 * k + a)) s); have : (tPush (tabB (3 * k + a)) s).2 = s.2 + 1 := rfl; omega)) hM1 (by omega)) eX7_byKind_243 rfl ⟨q1122, q1125, q62⟩ q1124 q52 ⟨rfl, by decide +kernel, by decide +kernel, by decide +kernel⟩ rfl (by rw [hM1.2.1]; exact ⟨rfl, rfl⟩) rfl ⟨by omega, by decide⟩ ⟨by omega, by omega⟩ rfl (Nat.le_of_ble_eq_true rfl) (fun v53 h54 hq55 => ?_)
    obtain ⟨rfl, hM51, hs52⟩ := hq55
    have hT56 := hs2.tr hs52
    dsimp only [Option.toList, List.cons_append, List.nil_append]
    refine aw_ret (v := some (.int _)) eX7_byKind_246 ⟨rfl, rfl⟩ (by omega) (by omega) rfl ?_
    refine ⟨?_, ?_, hT56⟩
    · rw [aRun, if_neg n_53_0, if_neg n_53_1, if_neg n_53_2, if_neg n_53_3, if_neg n_53_4, if_neg n_53_5, if_neg n_53_6, if_pos c_53]
    · rw [aRun, if_neg n_53_0, if_neg n_53_1, if_neg n_53_2, if_neg n_53_3, if_neg n_53_4, if_neg n_53_5, if_neg n_53_6, if_pos c_53]
      exact hM51
  refine aw_lsw (v := 60) (off := 194) (tgt := 247) eX7_byKind_53 (by decide) (by decide) (by decide) (fun c_53 => ?_) (fun n_53_8 => ?_)
  · have bt := bt_all k hk a ha (r := _) (by rw [btR, if_neg n_53_0, if_neg n_53_1, if_neg n_53_2, if_neg n_53_3, if_neg n_53_4, if_neg n_53_5, if_neg n_53_6, if_neg n_53_7, if_pos c_53])
    dsimp only at bt
    rw [show (mtr U s).1 12 (ow k a) = nI 2 from (hA _ ow7).trans (bt.2.2 (by decide))]
    refine aw_aload_n (pc' := 248) eX7_byKind_247 rfl rfl trivial ?_
    refine aw_iload (pc' := 250) eX7_byKind_248 rfl rfl ?_
    refine aw_iload_n (pc' := 251) eX7_byKind_250 rfl rfl ?_
    refine aw_iconst (pc' := 252) (v := 2) eX7_byKind_251 rfl (by decide) ?_
    refine aw_iload (pc' := 254) eX7_byKind_252 rfl rfl ?_
    refine aw_iload_n (pc' := 255) eX7_byKind_254 rfl rfl ?_
    refine aw_isub (pc' := 256) eX7_byKind_255 rfl ?_
    refine aw_callv (pc' := 259) (nn := 4) (ih (d - 1) 2 2 (x - nI i) (tPush (tabB (3 * k + a)) s) _ (by omega) (by omega) (by omega) (by have := pw_pos f; first | (show s.2 + 1 + pw f ≤ 1000000000; omega) | (have := aRun_le (K := K) (v := v) (i := nI i) f 3 1 x (tPush (tabB (3 * k + a)) s); have : (tPush (tabB (3 * k + a)) s).2 = s.2 + 1 := rfl; omega)) hM1 (by omega)) eX7_byKind_256 rfl ⟨q1122, q1125, q62⟩ q1124 q52 ⟨rfl, by decide +kernel, by decide +kernel, by decide +kernel⟩ rfl (by rw [hM1.2.1]; exact ⟨rfl, rfl⟩) rfl ⟨by omega, by decide⟩ ⟨by omega, by omega⟩ rfl (Nat.le_of_ble_eq_true rfl) (fun v59 h60 hq61 => ?_)
    obtain ⟨rfl, hM57, hs58⟩ := hq61
    have hT62 := hs2.tr hs58
    dsimp only [Option.toList, List.cons_append, List.nil_append]
    refine aw_ret (v := some (.int _)) eX7_byKind_259 ⟨rfl, rfl⟩ (by omega) (by omega) rfl ?_
    refine ⟨?_, ?_, hT62⟩
    · rw [aRun, if_neg n_53_0, if_neg n_53_1, if_neg n_53_2, if_neg n_53_3, if_neg n_53_4, if_neg n_53_5, if_neg n_53_6, if_neg n_53_7, if_pos c_53]
    · rw [aRun, if_neg n_53_0, if_neg n_53_1, if_neg n_53_2, if_neg n_53_3, if_neg n_53_4, if_neg n_53_5, if_neg n_53_6, if_neg n_53_7, if_pos c_53]
      exact hM57
  refine aw_lsw (v := 70) (off := 207) (tgt := 260) eX7_byKind_53 (by decide) (by decide) (by decide) (fun c_53 => ?_) (fun n_53_9 => ?_)
  · have bt := bt_all k hk a ha (r := _) (by rw [btR, if_neg n_53_0, if_neg n_53_1, if_neg n_53_2, if_neg n_53_3, if_neg n_53_4, if_neg n_53_5, if_neg n_53_6, if_neg n_53_7, if_neg n_53_8, if_pos c_53])
    dsimp only at bt
    rw [show (mtr U s).1 12 (ow k a) = nI 3 from (hA _ ow7).trans (bt.2.2 (by decide))]
    refine aw_aload_n (pc' := 261) eX7_byKind_260 rfl rfl trivial ?_
    refine aw_iload (pc' := 263) eX7_byKind_261 rfl rfl ?_
    refine aw_iload_n (pc' := 264) eX7_byKind_263 rfl rfl ?_
    refine aw_iconst (pc' := 265) (v := 1) eX7_byKind_264 rfl (by decide) ?_
    refine aw_iload (pc' := 267) eX7_byKind_265 rfl rfl ?_
    refine aw_callv (pc' := 270) (nn := 4) (ih (d - 1) 3 1 x (tPush (tabB (3 * k + a)) s) _ (by omega) (by omega) (by omega) (by have := pw_pos f; first | (show s.2 + 1 + pw f ≤ 1000000000; omega) | (have := aRun_le (K := K) (v := v) (i := nI i) f 3 1 x (tPush (tabB (3 * k + a)) s); have : (tPush (tabB (3 * k + a)) s).2 = s.2 + 1 := rfl; omega)) hM1 (by omega)) eX7_byKind_267 rfl ⟨q1122, q1125, q62⟩ q1124 q52 ⟨rfl, by decide +kernel, by decide +kernel, by decide +kernel⟩ rfl (by rw [hM1.2.1]; exact ⟨rfl, rfl⟩) rfl ⟨by omega, by decide⟩ ⟨by omega, by omega⟩ rfl (Nat.le_of_ble_eq_true rfl) (fun v65 h66 hq67 => ?_)
    obtain ⟨rfl, hM63, hs64⟩ := hq67
    have hT68 := hs2.tr hs64
    dsimp only [Option.toList, List.cons_append, List.nil_append]
    refine aw_aload_n (pc' := 271) eX7_byKind_270 rfl rfl trivial ?_
    refine aw_iload (pc' := 273) eX7_byKind_271 rfl rfl ?_
    refine aw_iload_n (pc' := 274) eX7_byKind_273 rfl rfl ?_
    refine aw_iconst (pc' := 275) (v := 0) eX7_byKind_274 rfl (by decide) ?_
    refine aw_iconst (pc' := 276) (v := 2) eX7_byKind_275 rfl (by decide) ?_
    refine aw_callv (pc' := 279) (nn := 4) (ih (d - 1) 3 0 2 (aRun K v (nI i) f 3 1 x (tPush (tabB (3 * k + a)) s)).2 _ (by omega) (by omega) (by omega) (by have := pw_pos f; first | (show s.2 + 1 + pw f ≤ 1000000000; omega) | (have := aRun_le (K := K) (v := v) (i := nI i) f 3 1 x (tPush (tabB (3 * k + a)) s); have : (tPush (tabB (3 * k + a)) s).2 = s.2 + 1 := rfl; omega)) hM63 (by omega)) eX7_byKind_276 rfl ⟨q1122, q1125, q62⟩ q1124 q52 ⟨rfl, by decide +kernel, by decide +kernel, by decide +kernel⟩ rfl (by rw [hM63.2.1]; exact ⟨rfl, rfl⟩) rfl ⟨by omega, by decide⟩ ⟨by omega, by omega⟩ rfl (Nat.le_of_ble_eq_true rfl) (fun v71 h72 hq73 => ?_)
    obtain ⟨rfl, hM69, hs70⟩ := hq73
    have hT74 := hT68.tr hs70
    dsimp only [Option.toList, List.cons_append, List.nil_append]
    refine aw_iadd (pc' := 280) eX7_byKind_279 rfl ?_
    refine aw_ret (v := some (.int _)) eX7_byKind_280 ⟨rfl, rfl⟩ (by omega) (by omega) rfl ?_
    refine ⟨?_, ?_, hT74⟩
    · rw [aRun, if_neg n_53_0, if_neg n_53_1, if_neg n_53_2, if_neg n_53_3, if_neg n_53_4, if_neg n_53_5, if_neg n_53_6, if_neg n_53_7, if_neg n_53_8, if_pos c_53]
    · rw [aRun, if_neg n_53_0, if_neg n_53_1, if_neg n_53_2, if_neg n_53_3, if_neg n_53_4, if_neg n_53_5, if_neg n_53_6, if_neg n_53_7, if_neg n_53_8, if_pos c_53]
      exact hM69
  refine aw_lswo (off := 228) (tgt := 281) eX7_byKind_53 (by decide) ((lv_osw n_53_0 (by decide)).trans ((lv_osw n_53_1 (by decide)).trans ((lv_osw n_53_2 (by decide)).trans ((lv_osw n_53_3 (by decide)).trans ((lv_osw n_53_4 (by decide)).trans ((lv_osw n_53_5 (by decide)).trans ((lv_osw n_53_6 (by decide)).trans ((lv_osw n_53_7 (by decide)).trans ((lv_osw n_53_8 (by decide)).trans ((lv_osw n_53_9 (by decide)).trans (rfl))))))))))) (by decide) ?_
  have bt := bt_all k hk a ha (r := _) (by rw [btR, if_neg n_53_0, if_neg n_53_1, if_neg n_53_2, if_neg n_53_3, if_neg n_53_4, if_neg n_53_5, if_neg n_53_6, if_neg n_53_7, if_neg n_53_8, if_neg n_53_9])
  dsimp only at bt
  rw [show (mtr U s).1 12 (ow k a) = nI 3 from (hA _ ow7).trans (bt.2.2 (by decide))]
  refine aw_aload_n (pc' := 282) eX7_byKind_281 rfl rfl trivial ?_
  refine aw_iload (pc' := 284) eX7_byKind_282 rfl rfl ?_
  refine aw_iload_n (pc' := 285) eX7_byKind_284 rfl rfl ?_
  refine aw_iconst (pc' := 286) (v := 0) eX7_byKind_285 rfl (by decide) ?_
  refine aw_iload (pc' := 288) eX7_byKind_286 rfl rfl ?_
  refine aw_callv (pc' := 291) (nn := 4) (ih (d - 1) 3 0 x (tPush (tabB (3 * k + a)) s) _ (by omega) (by omega) (by omega) (by have := pw_pos f; first | (show s.2 + 1 + pw f ≤ 1000000000; omega) | (have := aRun_le (K := K) (v := v) (i := nI i) f 3 1 x (tPush (tabB (3 * k + a)) s); have : (tPush (tabB (3 * k + a)) s).2 = s.2 + 1 := rfl; omega)) hM1 (by omega)) eX7_byKind_288 rfl ⟨q1122, q1125, q62⟩ q1124 q52 ⟨rfl, by decide +kernel, by decide +kernel, by decide +kernel⟩ rfl (by rw [hM1.2.1]; exact ⟨rfl, rfl⟩) rfl ⟨by omega, by decide⟩ ⟨by omega, by omega⟩ rfl (Nat.le_of_ble_eq_true rfl) (fun v77 h78 hq79 => ?_)
  obtain ⟨rfl, hM75, hs76⟩ := hq79
  have hT80 := hs2.tr hs76
  dsimp only [Option.toList, List.cons_append, List.nil_append]
  refine aw_aload_n (pc' := 292) eX7_byKind_291 rfl rfl trivial ?_
  refine aw_iload_n (pc' := 293) eX7_byKind_292 rfl rfl ?_
  refine aw_iconst (pc' := 294) (v := 1) eX7_byKind_293 rfl (by decide) ?_
  refine aw_callv (pc' := 297) (nn := 2) (c_one (d := d - 1) hM75 i 1 (by omega) (by omega)) eX7_byKind_294 rfl ⟨q901, q904, q62⟩ q903 q22 ⟨rfl, by decide +kernel, by decide +kernel, by decide +kernel⟩ rfl (by rw [hM75.2.1]; exact ⟨rfl, rfl⟩) rfl ⟨by omega, by decide⟩ ⟨by omega, by omega⟩ rfl (Nat.le_of_ble_eq_true rfl) (fun v81 h82 hq83 => ?_)
  obtain ⟨rfl, rfl⟩ := hq83
  dsimp only [Option.toList, List.cons_append, List.nil_append]
  refine aw_ixor (pc' := 298) eX7_byKind_297 rfl ?_
  refine aw_ret (v := some (.int _)) eX7_byKind_298 ⟨rfl, rfl⟩ (by omega) (by omega) rfl ?_
  refine ⟨?_, ?_, hT80⟩
  · rw [aRun, if_neg n_53_0, if_neg n_53_1, if_neg n_53_2, if_neg n_53_3, if_neg n_53_4, if_neg n_53_5, if_neg n_53_6, if_neg n_53_7, if_neg n_53_8, if_neg n_53_9]
    rw [show (mtr U _).1 1 (10 * i + 1) = v from ev]
  · rw [aRun, if_neg n_53_0, if_neg n_53_1, if_neg n_53_2, if_neg n_53_3, if_neg n_53_4, if_neg n_53_5, if_neg n_53_6, if_neg n_53_7, if_neg n_53_8, if_neg n_53_9]
    exact hM75
theorem all_AC {K i : Nat} {v : Int32} (hA : mA U) (hB : mBo U) (hK : K < 7) (hi : i < 6) (eK : U.1 1 (10 * i) = nI K) (ev : U.1 1 (10 * i + 1) = v) : ∀ f, AC l G u U K v i f
  | 0 => fun d k a x s h hk ha hf hs hM hd => absurd hf (Nat.not_lt_zero _)
  | f + 1 => step_AC hA hB hK hi eK ev (all_AC hA hB hK hi eK ev f)
def sAct (g : Nat → Int32) (m : Nat) (tl a x : Int32) (f : Nat → Int32) : Int32 × TS := if bIn tl 0 (nI m - 1) = true ∧ bIn a 0 2 = true then aRun (g (10 * tl.toNatClampNeg)).toNatClampNeg (g (10 * tl.toNatClampNeg + 1)) tl 21 (g (10 * tl.toNatClampNeg)).toNatClampNeg a.toNatClampNeg x (f, 0) else (0, (f, 0))
abbrev mX7_act : MT := (RX7, cX7_act, 4, (some .int), false)
theorem eX7_act_0 : decode mX7_act.2.1 0 = .ok (.aload_n 0, 1) := by decide +kernel
theorem eX7_act_1 : decode mX7_act.2.1 1 = .ok (.iconst 0, 1) := by decide +kernel
theorem eX7_act_2 : decode mX7_act.2.1 2 = .ok (.putfield 236, 3) := by decide +kernel
theorem eX7_act_5 : decode mX7_act.2.1 5 = .ok (.aload_n 0, 1) := by decide +kernel
theorem eX7_act_6 : decode mX7_act.2.1 6 = .ok (.iload_n 1, 1) := by decide +kernel
theorem eX7_act_7 : decode mX7_act.2.1 7 = .ok (.invokevirtual 88, 3) := by decide +kernel
theorem eX7_act_10 : decode mX7_act.2.1 10 = .ok (.ifCond .eq 22, 3) := by decide +kernel
theorem eX7_act_13 : decode mX7_act.2.1 13 = .ok (.iload_n 2, 1) := by decide +kernel
theorem eX7_act_14 : decode mX7_act.2.1 14 = .ok (.iconst 0, 1) := by decide +kernel
theorem eX7_act_15 : decode mX7_act.2.1 15 = .ok (.iconst 2, 1) := by decide +kernel
theorem eX7_act_16 : decode mX7_act.2.1 16 = .ok (.invokestatic 80, 3) := by decide +kernel
theorem eX7_act_19 : decode mX7_act.2.1 19 = .ok (.ifCond .eq 13, 3) := by decide +kernel
theorem eX7_act_22 : decode mX7_act.2.1 22 = .ok (.aload_n 0, 1) := by decide +kernel
theorem eX7_act_23 : decode mX7_act.2.1 23 = .ok (.iload_n 1, 1) := by decide +kernel
theorem eX7_act_24 : decode mX7_act.2.1 24 = .ok (.iload_n 2, 1) := by decide +kernel
theorem eX7_act_25 : decode mX7_act.2.1 25 = .ok (.iload_n 3, 1) := by decide +kernel
theorem eX7_act_26 : decode mX7_act.2.1 26 = .ok (.invokevirtual 246, 3) := by decide +kernel
theorem eX7_act_29 : decode mX7_act.2.1 29 = .ok (.goto 4, 3) := by decide +kernel
theorem eX7_act_32 : decode mX7_act.2.1 32 = .ok (.iconst 0, 1) := by decide +kernel
theorem eX7_act_33 : decode mX7_act.2.1 33 = .ok (.ireturn, 1) := by decide +kernel
theorem c_X7_act (hM : MAt h u U) {m : Nat} (hm : mOk U m) (hA : mA U) (hB : mBo U) (hK0 : ∀ i, i < m → ∃ a, a < 7 ∧ U.1 1 (10 * i) = nI a) (tl a x : Int32) (hd : 46 ≤ d) : Ct l G mX7_act yX7_act d 0 0 [.ref u, .int tl, .int a, .int x] h (fun r h' => r = some (.int (sAct (U.1 1) m tl a x (U.1 14)).1) ∧ MAt h' u (mtr U (sAct (U.1 1) m tl a x (U.1 14)).2) ∧ Same u 19 h h') := by
  refine ct_of (lv := [some (.ref u), some (.int tl), some (.int a), some (.int x)]) (by decide +kernel) rfl (fun z => by cases z) (fun _ => rfl) (fun _ => Nat.le_of_ble_eq_true rfl) ?_
  refine aw_aload_n (pc' := 1) eX7_act_0 rfl rfl trivial ?_
  refine aw_iconst (pc' := 2) (v := 0) eX7_act_1 rfl (by decide) ?_
  refine aw_Mput (pc' := 5) 23 hM eX7_act_2 rfl (by decide) (fun z => absurd z (by decide)) q812 (fun h3 hM1 hs2 => ?_)
  refine aw_aload_n (pc' := 6) eX7_act_5 rfl rfl trivial ?_
  refine aw_iload_n (pc' := 7) eX7_act_6 rfl rfl ?_
  refine aw_callv (pc' := 10) (nn := 1) (c_X7_isOne (d := d - 1) hM1 _ (by omega)) eX7_act_7 rfl ⟨q897, q900, q62⟩ q899 q21 ⟨rfl, by decide +kernel, by decide +kernel, by decide +kernel⟩ rfl (by rw [hM1.2.1]; exact ⟨rfl, rfl⟩) rfl ⟨by omega, by decide⟩ ⟨by omega, by omega⟩ rfl (Nat.le_of_ble_eq_true rfl) (fun v4 h5 hq6 => ?_)
  obtain ⟨rfl, rfl⟩ := hq6
  dsimp only [Option.toList, List.cons_append, List.nil_append]
  refine aw_if_eq (pc' := 13) (tgt := 32) eX7_act_10 rfl (by decide) (fun c_10 => ?_) (fun c_10 => ?_)
  · refine aw_iconst (pc' := 33) (v := 0) eX7_act_32 rfl (by decide) ?_
    refine aw_ret (v := some (.int _)) eX7_act_33 ⟨rfl, rfl⟩ (by omega) (by omega) rfl ?_
    simp only [zb_eq0, Bool.not_eq_false, Bool.not_eq_true, decide_eq_true_eq, decide_eq_false_iff_not, Decidable.not_not] at c_10
    have hM9 := hM1
    rw [show (msc U 23 0).1 1 60 = nI m from hm.1] at c_10
    have e0 : mtr U (U.1 14, 0) = msc U 23 0 := by
      unfold mtr mset msc
      congr 1
      funext j
      by_cases z : j = 14
      · subst z; simp
      · simp [z]
    exact ⟨by rw [sAct, if_neg (by rw [c_10]; simp)], by rw [sAct, if_neg (by rw [c_10]; simp)]; show MAt _ u (mtr U (U.1 14, 0)); rw [e0]; exact hM9, hs2⟩
  · rw [show (msc U 23 0).1 1 60 = nI m from hm.1] at c_10
    simp only [zb_eq0, Bool.not_eq_false, Bool.not_eq_true, decide_eq_true_eq, decide_eq_false_iff_not, Decidable.not_not] at c_10
    have c10 := c_10
    have hm6 := hm.2
    obtain ⟨i, hi, rfl⟩ := (bIn_one hm.2).mp c10
    have cli : (nI i).toNatClampNeg = i := nI_clamp (by omega)
    obtain ⟨K, hK, eK⟩ := hK0 i hi
    refine aw_iload_n (pc' := 14) eX7_act_13 rfl rfl ?_
    refine aw_iconst (pc' := 15) (v := 0) eX7_act_14 rfl (by decide) ?_
    refine aw_iconst (pc' := 16) (v := 2) eX7_act_15 rfl (by decide) ?_
    refine aw_calls (pc' := 19) (nn := 3) (c_X7_isIn (d := d - 1) _ _ _ (by omega)) eX7_act_16 rfl ⟨q890, q892, q62⟩ q891 ⟨by decide +kernel, by decide +kernel, by decide +kernel⟩ rfl ⟨by omega, by decide⟩ ⟨by omega, by omega⟩ rfl (Nat.le_of_ble_eq_true rfl) (fun v7 h8 hq9 => ?_)
    obtain ⟨rfl, rfl⟩ := hq9
    dsimp only [Option.toList, List.cons_append, List.nil_append]
    refine aw_if_eq (pc' := 22) (tgt := 32) eX7_act_19 rfl (by decide) (fun c_19 => ?_) (fun c_19 => ?_)
    · refine aw_iconst (pc' := 33) (v := 0) eX7_act_32 rfl (by decide) ?_
      refine aw_ret (v := some (.int _)) eX7_act_33 ⟨rfl, rfl⟩ (by omega) (by omega) rfl ?_
      simp only [zb_eq0, Bool.not_eq_false, Bool.not_eq_true, decide_eq_true_eq, decide_eq_false_iff_not, Decidable.not_not] at c_19
      have hM9 := hM1
      have e0 : mtr U (U.1 14, 0) = msc U 23 0 := by
        unfold mtr mset msc
        congr 1
        funext j
        by_cases z : j = 14
        · subst z; simp
        · simp [z]
      exact ⟨by rw [sAct, if_neg (by rw [c_19]; simp)], by rw [sAct, if_neg (by rw [c_19]; simp)]; show MAt _ u (mtr U (U.1 14, 0)); rw [e0]; exact hM9, hs2⟩
    · simp only [zb_eq0, Bool.not_eq_false, Bool.not_eq_true, decide_eq_true_eq, decide_eq_false_iff_not, Decidable.not_not] at c_19
      have c19 := c_19
      obtain ⟨a, ha, rfl⟩ := (bIn_lit (N := 2) (by omega)).mp c19
      have cla : (nI a).toNatClampNeg = a := nI_clamp (by omega)
      have e0 : mtr U (U.1 14, 0) = msc U 23 0 := by
        unfold mtr mset msc
        congr 1
        funext j
        by_cases z : j = 14
        · subst z; simp
        · simp [z]
      have hM8 := hM1
      rw [← e0] at hM8
      refine aw_aload_n (pc' := 23) eX7_act_22 rfl rfl trivial ?_
      refine aw_iload_n (pc' := 24) eX7_act_23 rfl rfl ?_
      refine aw_iload_n (pc' := 25) eX7_act_24 rfl rfl ?_
      refine aw_iload_n (pc' := 26) eX7_act_25 rfl rfl ?_
      refine aw_callv (pc' := 29) (nn := 3) (c_X7_all (d := d - 1) (K := K) (i := i) (f := 21) (a := a) (v := U.1 1 (10 * i + 1)) (x := x) (s := (U.1 14, 0)) hK (by omega) eK (all_AC hA hB hK (by omega) eK rfl 21) (by omega) (by omega) (by rw [pw_21]; show 0 + 2097152 ≤ _; omega) hM8 (by omega) (by omega)) eX7_act_26 rfl ⟨q1118, q1121, q62⟩ q1120 q51 ⟨rfl, by decide +kernel, by decide +kernel, by decide +kernel⟩ rfl (by rw [hM8.2.1]; exact ⟨rfl, rfl⟩) rfl ⟨by omega, by decide⟩ ⟨by omega, by omega⟩ rfl (Nat.le_of_ble_eq_true rfl) (fun v12 h13 hq14 => ?_)
      obtain ⟨rfl, hM10, hs11⟩ := hq14
      have hT15 := hs2.tr hs11
      dsimp only [Option.toList, List.cons_append, List.nil_append]
      refine aw_goto eX7_act_29 (by decide) (tgt := 33) ?_
      refine aw_ret (v := some (.int _)) eX7_act_33 ⟨rfl, rfl⟩ (by omega) (by omega) rfl ?_
      exact ⟨by rw [sAct, if_pos ⟨c10, c19⟩, cli, cla, eK, nI_clamp (by omega)], by rw [sAct, if_pos ⟨c10, c19⟩, cli, cla, eK, nI_clamp (by omega)]; exact hM10, hT15⟩
end M27
