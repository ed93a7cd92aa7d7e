/-! the reference: one command, read -/
theorem cmd_fin {n : Nat} {s : Nat → Nat} {a J h1 e1 : Nat} (hQ : Qs (pTry n s a J) = (h1, e1)) (hc : ((Qs (pTry n s a J)).2 = 0 → (pCmd n s a 10).1 = J) ∧ ((Qs (pTry n s a J)).2 ≠ 0 → (pCmd n s a 10).1 = 10 ∧ (pCmd n s a 10).2 + 1 = (Qs (pTry n s a J)).2)) : (e1 = 0 → (pCmd n s a 10).1 = J ∧ (pTry n s a J).2.1 = h1 ∧ (pTry n s a J).1 = true) ∧ (e1 ≠ 0 → (pCmd n s a 10).1 = 10 ∧ (pCmd n s a 10).2 + 1 = e1) := by
  rw [hQ] at hc
  refine ⟨fun h => ⟨hc.1 h, ?_, ?_⟩, fun h => hc.2 h⟩
  · rw [← Qs_1, hQ]
  · exact Qs_0.mp (by rw [hQ]; exact h)
theorem frm_d0 : ∀ j, j < 10 → ∀ k, k < 10 → frm k 0 = frm j 0 → (k = j ∨ j = 1 ∨ j = 4) := by decide +kernel
theorem frm_d (j : Nat) (h : j < 10) (h1 : j ≠ 1) (h4 : j ≠ 4) (k : Nat) (hk : k < 10) (hn : k ≠ j) : frm k 0 ≠ frm j 0 := fun e => (frm_d0 j h k hk e).elim hn (fun q => q.elim h1 h4)
theorem frm_v : ∀ j, j < 10 → (frm j 0 = 99 ∨ frm j 0 = 100 ∨ frm j 0 = 102 ∨ frm j 0 = 104 ∨ frm j 0 = 108 ∨ frm j 0 = 112 ∨ frm j 0 = 114 ∨ frm j 0 = 115 ∨ frm j 0 = 119) := by decide +kernel
/-- what one command's reading leaves -/
def cmR (n : Nat) (s : Nat → Nat) (h r h1 e1 : Nat) (cs1 : Nat → Nat) : Prop := (∃ J, J < 10 ∧ (e1 = 0 → (pCmd n s h 10).1 = J ∧ (pTry n s h J).2.1 = h1 ∧ cs1 r = ltr J ∧ cs1 (r + 1) = (pTry n s h J).2.2.1 ∧ cs1 (r + 2) = (if J = 1 then (pTry n s h J).2.2.2.1 - (pTry n s h J).2.2.1 else (pTry n s h J).2.2.2.1))) ∧ (e1 ≠ 0 → (pCmd n s h 10).1 = 10 ∧ (pCmd n s h 10).2 + 1 = e1)
theorem cmR_mk {n : Nat} {s : Nat → Nat} {h r h1 e1 J : Nat} {cs1 : Nat → Nat} (hJ : J < 10) (hJ1 : J ≠ 1) (hJ4 : J ≠ 4) (h0 : h < n ∧ s h = frm J 0) (hQ : Qs (pTry n s h J) = (h1, e1)) (hr : cs1 r = frm J 0) (hv : (pTry n s h J).1 = true → cs1 (r + 1) = (pTry n s h J).2.2.1 ∧ cs1 (r + 2) = (pTry n s h J).2.2.2.1) : cmR n s h r h1 e1 cs1 := by
  obtain ⟨h2, h3⟩ := cmd_fin hQ (cmd_one hJ h0 (frm_d J hJ hJ1 hJ4))
  refine ⟨⟨J, hJ, fun e => ?_⟩, h3⟩
  obtain ⟨h4, h5, h6⟩ := h2 e
  obtain ⟨h7, h8⟩ := hv h6
  exact ⟨h4, h5, hr.trans (if_neg hJ4).symm, h7, h8.trans (if_neg hJ1).symm⟩

theorem d_MessageCoderModel_command_0 : decode prog_14_method_116_code 0 = .ok (.iconst 3, 1) := by decide +kernel
theorem d_MessageCoderModel_command_1 : decode prog_14_method_116_code 1 = .ok (.aload_n 0, 1) := by decide +kernel
theorem d_MessageCoderModel_command_2 : decode prog_14_method_116_code 2 = .ok (.getfield 264, 3) := by decide +kernel
theorem d_MessageCoderModel_command_5 : decode prog_14_method_116_code 5 = .ok (.imul, 1) := by decide +kernel
theorem d_MessageCoderModel_command_6 : decode prog_14_method_116_code 6 = .ok (.istore_n 1, 1) := by decide +kernel
theorem d_MessageCoderModel_command_7 : decode prog_14_method_116_code 7 = .ok (.aload_n 0, 1) := by decide +kernel
theorem d_MessageCoderModel_command_8 : decode prog_14_method_116_code 8 = .ok (.dup, 1) := by decide +kernel
theorem d_MessageCoderModel_command_9 : decode prog_14_method_116_code 9 = .ok (.getfield 264, 3) := by decide +kernel
theorem d_MessageCoderModel_command_12 : decode prog_14_method_116_code 12 = .ok (.iconst 1, 1) := by decide +kernel
theorem d_MessageCoderModel_command_13 : decode prog_14_method_116_code 13 = .ok (.iadd, 1) := by decide +kernel
theorem d_MessageCoderModel_command_14 : decode prog_14_method_116_code 14 = .ok (.putfield 264, 3) := by decide +kernel
theorem d_MessageCoderModel_command_17 : decode prog_14_method_116_code 17 = .ok (.aload_n 0, 1) := by decide +kernel
theorem d_MessageCoderModel_command_18 : decode prog_14_method_116_code 18 = .ok (.invokevirtual 245, 3) := by decide +kernel
theorem d_MessageCoderModel_command_21 : decode prog_14_method_116_code 21 = .ok (.istore_n 2, 1) := by decide +kernel
theorem d_MessageCoderModel_command_22 : decode prog_14_method_116_code 22 = .ok (.aload_n 0, 1) := by decide +kernel
theorem d_MessageCoderModel_command_23 : decode prog_14_method_116_code 23 = .ok (.getfield 239, 3) := by decide +kernel
theorem d_MessageCoderModel_command_26 : decode prog_14_method_116_code 26 = .ok (.istore_n 3, 1) := by decide +kernel
theorem d_MessageCoderModel_command_27 : decode prog_14_method_116_code 27 = .ok (.aload_n 0, 1) := by decide +kernel
theorem d_MessageCoderModel_command_28 : decode prog_14_method_116_code 28 = .ok (.getfield 48, 3) := by decide +kernel
theorem d_MessageCoderModel_command_31 : decode prog_14_method_116_code 31 = .ok (.iload_n 1, 1) := by decide +kernel
theorem d_MessageCoderModel_command_32 : decode prog_14_method_116_code 32 = .ok (.iload_n 2, 1) := by decide +kernel
theorem d_MessageCoderModel_command_33 : decode prog_14_method_116_code 33 = .ok (.iastore, 1) := by decide +kernel
theorem d_MessageCoderModel_command_34 : decode prog_14_method_116_code 34 = .ok (.aload_n 0, 1) := by decide +kernel
theorem d_MessageCoderModel_command_35 : decode prog_14_method_116_code 35 = .ok (.getfield 48, 3) := by decide +kernel
theorem d_MessageCoderModel_command_38 : decode prog_14_method_116_code 38 = .ok (.iload_n 1, 1) := by decide +kernel
theorem d_MessageCoderModel_command_39 : decode prog_14_method_116_code 39 = .ok (.iconst 1, 1) := by decide +kernel
theorem d_MessageCoderModel_command_40 : decode prog_14_method_116_code 40 = .ok (.iadd, 1) := by decide +kernel
theorem d_MessageCoderModel_command_41 : decode prog_14_method_116_code 41 = .ok (.iconst 0, 1) := by decide +kernel
theorem d_MessageCoderModel_command_42 : decode prog_14_method_116_code 42 = .ok (.iastore, 1) := by decide +kernel
theorem d_MessageCoderModel_command_43 : decode prog_14_method_116_code 43 = .ok (.aload_n 0, 1) := by decide +kernel
theorem d_MessageCoderModel_command_44 : decode prog_14_method_116_code 44 = .ok (.getfield 48, 3) := by decide +kernel
theorem d_MessageCoderModel_command_47 : decode prog_14_method_116_code 47 = .ok (.iload_n 1, 1) := by decide +kernel
theorem d_MessageCoderModel_command_48 : decode prog_14_method_116_code 48 = .ok (.iconst 2, 1) := by decide +kernel
theorem d_MessageCoderModel_command_49 : decode prog_14_method_116_code 49 = .ok (.iadd, 1) := by decide +kernel
theorem d_MessageCoderModel_command_50 : decode prog_14_method_116_code 50 = .ok (.iconst 0, 1) := by decide +kernel
theorem d_MessageCoderModel_command_51 : decode prog_14_method_116_code 51 = .ok (.iastore, 1) := by decide +kernel
theorem d_MessageCoderModel_command_52 : decode prog_14_method_116_code 52 = .ok (.aload_n 0, 1) := by decide +kernel
theorem d_MessageCoderModel_command_53 : decode prog_14_method_116_code 53 = .ok (.dup, 1) := by decide +kernel
theorem d_MessageCoderModel_command_54 : decode prog_14_method_116_code 54 = .ok (.getfield 239, 3) := by decide +kernel
theorem d_MessageCoderModel_command_57 : decode prog_14_method_116_code 57 = .ok (.iconst 1, 1) := by decide +kernel
theorem d_MessageCoderModel_command_58 : decode prog_14_method_116_code 58 = .ok (.iadd, 1) := by decide +kernel
theorem d_MessageCoderModel_command_59 : decode prog_14_method_116_code 59 = .ok (.putfield 239, 3) := by decide +kernel
theorem d_MessageCoderModel_command_62 : decode prog_14_method_116_code 62 = .ok (.iload_n 2, 1) := by decide +kernel
theorem d_MessageCoderModel_command_63 : decode prog_14_method_116_code 63 = .ok (.tableswitch 250 99 119 #[113, 105, 250, 215, 250, 160, 250, 250, 250, 168, 250, 250, 250, 132, 250, 243, 202, 250, 250, 250, 97], 97) := by decide +kernel
theorem d_MessageCoderModel_command_160 : decode prog_14_method_116_code 160 = .ok (.aload_n 0, 1) := by decide +kernel
theorem d_MessageCoderModel_command_161 : decode prog_14_method_116_code 161 = .ok (.iload_n 1, 1) := by decide +kernel
theorem d_MessageCoderModel_command_162 : decode prog_14_method_116_code 162 = .ok (.invokevirtual 267, 3) := by decide +kernel
theorem d_MessageCoderModel_command_165 : decode prog_14_method_116_code 165 = .ok (.goto 158, 3) := by decide +kernel
theorem d_MessageCoderModel_command_168 : decode prog_14_method_116_code 168 = .ok (.aload_n 0, 1) := by decide +kernel
theorem d_MessageCoderModel_command_169 : decode prog_14_method_116_code 169 = .ok (.iload_n 1, 1) := by decide +kernel
theorem d_MessageCoderModel_command_170 : decode prog_14_method_116_code 170 = .ok (.invokevirtual 270, 3) := by decide +kernel
theorem d_MessageCoderModel_command_173 : decode prog_14_method_116_code 173 = .ok (.goto 150, 3) := by decide +kernel
theorem d_MessageCoderModel_command_176 : decode prog_14_method_116_code 176 = .ok (.aload_n 0, 1) := by decide +kernel
theorem d_MessageCoderModel_command_177 : decode prog_14_method_116_code 177 = .ok (.bipush 108, 2) := by decide +kernel
theorem d_MessageCoderModel_command_179 : decode prog_14_method_116_code 179 = .ok (.bipush 101, 2) := by decide +kernel
theorem d_MessageCoderModel_command_181 : decode prog_14_method_116_code 181 = .ok (.bipush 97, 2) := by decide +kernel
theorem d_MessageCoderModel_command_183 : decode prog_14_method_116_code 183 = .ok (.invokevirtual 251, 3) := by decide +kernel
theorem d_MessageCoderModel_command_186 : decode prog_14_method_116_code 186 = .ok (.aload_n 0, 1) := by decide +kernel
theorem d_MessageCoderModel_command_187 : decode prog_14_method_116_code 187 = .ok (.bipush 114, 2) := by decide +kernel
theorem d_MessageCoderModel_command_189 : decode prog_14_method_116_code 189 = .ok (.invokevirtual 248, 3) := by decide +kernel
theorem d_MessageCoderModel_command_192 : decode prog_14_method_116_code 192 = .ok (.goto 131, 3) := by decide +kernel
theorem d_MessageCoderModel_command_195 : decode prog_14_method_116_code 195 = .ok (.aload_n 0, 1) := by decide +kernel
theorem d_MessageCoderModel_command_196 : decode prog_14_method_116_code 196 = .ok (.bipush 111, 2) := by decide +kernel
theorem d_MessageCoderModel_command_198 : decode prog_14_method_116_code 198 = .ok (.bipush 115, 2) := by decide +kernel
theorem d_MessageCoderModel_command_200 : decode prog_14_method_116_code 200 = .ok (.bipush 116, 2) := by decide +kernel
theorem d_MessageCoderModel_command_202 : decode prog_14_method_116_code 202 = .ok (.invokevirtual 251, 3) := by decide +kernel
theorem d_MessageCoderModel_command_205 : decode prog_14_method_116_code 205 = .ok (.aload_n 0, 1) := by decide +kernel
theorem d_MessageCoderModel_command_206 : decode prog_14_method_116_code 206 = .ok (.getfield 48, 3) := by decide +kernel
theorem d_MessageCoderModel_command_209 : decode prog_14_method_116_code 209 = .ok (.iload_n 1, 1) := by decide +kernel
theorem d_MessageCoderModel_command_210 : decode prog_14_method_116_code 210 = .ok (.iconst 1, 1) := by decide +kernel
theorem d_MessageCoderModel_command_211 : decode prog_14_method_116_code 211 = .ok (.iadd, 1) := by decide +kernel
theorem d_MessageCoderModel_command_212 : decode prog_14_method_116_code 212 = .ok (.aload_n 0, 1) := by decide +kernel
theorem d_MessageCoderModel_command_213 : decode prog_14_method_116_code 213 = .ok (.bipush 32, 2) := by decide +kernel
theorem d_MessageCoderModel_command_215 : decode prog_14_method_116_code 215 = .ok (.iconst 1, 1) := by decide +kernel
theorem d_MessageCoderModel_command_216 : decode prog_14_method_116_code 216 = .ok (.invokevirtual 261, 3) := by decide +kernel
theorem d_MessageCoderModel_command_219 : decode prog_14_method_116_code 219 = .ok (.iastore, 1) := by decide +kernel
theorem d_MessageCoderModel_command_220 : decode prog_14_method_116_code 220 = .ok (.goto 103, 3) := by decide +kernel
theorem d_MessageCoderModel_command_223 : decode prog_14_method_116_code 223 = .ok (.aload_n 0, 1) := by decide +kernel
theorem d_MessageCoderModel_command_224 : decode prog_14_method_116_code 224 = .ok (.iload_n 1, 1) := by decide +kernel
theorem d_MessageCoderModel_command_225 : decode prog_14_method_116_code 225 = .ok (.invokevirtual 273, 3) := by decide +kernel
theorem d_MessageCoderModel_command_228 : decode prog_14_method_116_code 228 = .ok (.goto 95, 3) := by decide +kernel
theorem d_MessageCoderModel_command_231 : decode prog_14_method_116_code 231 = .ok (.aload_n 0, 1) := by decide +kernel
theorem d_MessageCoderModel_command_232 : decode prog_14_method_116_code 232 = .ok (.bipush 101, 2) := by decide +kernel
theorem d_MessageCoderModel_command_234 : decode prog_14_method_116_code 234 = .ok (.bipush 97, 2) := by decide +kernel
theorem d_MessageCoderModel_command_236 : decode prog_14_method_116_code 236 = .ok (.bipush 114, 2) := by decide +kernel
theorem d_MessageCoderModel_command_238 : decode prog_14_method_116_code 238 = .ok (.invokevirtual 251, 3) := by decide +kernel
theorem d_MessageCoderModel_command_241 : decode prog_14_method_116_code 241 = .ok (.aload_n 0, 1) := by decide +kernel
theorem d_MessageCoderModel_command_242 : decode prog_14_method_116_code 242 = .ok (.bipush 110, 2) := by decide +kernel
theorem d_MessageCoderModel_command_244 : decode prog_14_method_116_code 244 = .ok (.invokevirtual 248, 3) := by decide +kernel
theorem d_MessageCoderModel_command_247 : decode prog_14_method_116_code 247 = .ok (.aload_n 0, 1) := by decide +kernel
theorem d_MessageCoderModel_command_248 : decode prog_14_method_116_code 248 = .ok (.getfield 48, 3) := by decide +kernel
theorem d_MessageCoderModel_command_251 : decode prog_14_method_116_code 251 = .ok (.iload_n 1, 1) := by decide +kernel
theorem d_MessageCoderModel_command_252 : decode prog_14_method_116_code 252 = .ok (.iconst 1, 1) := by decide +kernel
theorem d_MessageCoderModel_command_253 : decode prog_14_method_116_code 253 = .ok (.iadd, 1) := by decide +kernel
theorem d_MessageCoderModel_command_254 : decode prog_14_method_116_code 254 = .ok (.aload_n 0, 1) := by decide +kernel
theorem d_MessageCoderModel_command_255 : decode prog_14_method_116_code 255 = .ok (.bipush 32, 2) := by decide +kernel
theorem d_MessageCoderModel_command_257 : decode prog_14_method_116_code 257 = .ok (.iconst 3, 1) := by decide +kernel
theorem d_MessageCoderModel_command_258 : decode prog_14_method_116_code 258 = .ok (.invokevirtual 261, 3) := by decide +kernel
theorem d_MessageCoderModel_command_261 : decode prog_14_method_116_code 261 = .ok (.iastore, 1) := by decide +kernel
theorem d_MessageCoderModel_command_262 : decode prog_14_method_116_code 262 = .ok (.goto 61, 3) := by decide +kernel
theorem d_MessageCoderModel_command_265 : decode prog_14_method_116_code 265 = .ok (.aload_n 0, 1) := by decide +kernel
theorem d_MessageCoderModel_command_266 : decode prog_14_method_116_code 266 = .ok (.bipush 101, 2) := by decide +kernel
theorem d_MessageCoderModel_command_268 : decode prog_14_method_116_code 268 = .ok (.bipush 110, 2) := by decide +kernel
theorem d_MessageCoderModel_command_270 : decode prog_14_method_116_code 270 = .ok (.bipush 100, 2) := by decide +kernel
theorem d_MessageCoderModel_command_272 : decode prog_14_method_116_code 272 = .ok (.invokevirtual 251, 3) := by decide +kernel
theorem d_MessageCoderModel_command_275 : decode prog_14_method_116_code 275 = .ok (.goto 48, 3) := by decide +kernel
theorem d_MessageCoderModel_command_278 : decode prog_14_method_116_code 278 = .ok (.aload_n 0, 1) := by decide +kernel
theorem d_MessageCoderModel_command_279 : decode prog_14_method_116_code 279 = .ok (.bipush 108, 2) := by decide +kernel
theorem d_MessageCoderModel_command_281 : decode prog_14_method_116_code 281 = .ok (.bipush 105, 2) := by decide +kernel
theorem d_MessageCoderModel_command_283 : decode prog_14_method_116_code 283 = .ok (.bipush 112, 2) := by decide +kernel
theorem d_MessageCoderModel_command_285 : decode prog_14_method_116_code 285 = .ok (.invokevirtual 251, 3) := by decide +kernel
theorem d_MessageCoderModel_command_288 : decode prog_14_method_116_code 288 = .ok (.aload_n 0, 1) := by decide +kernel
theorem d_MessageCoderModel_command_289 : decode prog_14_method_116_code 289 = .ok (.getfield 48, 3) := by decide +kernel
theorem d_MessageCoderModel_command_292 : decode prog_14_method_116_code 292 = .ok (.iload_n 1, 1) := by decide +kernel
theorem d_MessageCoderModel_command_293 : decode prog_14_method_116_code 293 = .ok (.iconst 1, 1) := by decide +kernel
theorem d_MessageCoderModel_command_294 : decode prog_14_method_116_code 294 = .ok (.iadd, 1) := by decide +kernel
theorem d_MessageCoderModel_command_295 : decode prog_14_method_116_code 295 = .ok (.aload_n 0, 1) := by decide +kernel
theorem d_MessageCoderModel_command_296 : decode prog_14_method_116_code 296 = .ok (.bipush 32, 2) := by decide +kernel
theorem d_MessageCoderModel_command_298 : decode prog_14_method_116_code 298 = .ok (.iconst 3, 1) := by decide +kernel
theorem d_MessageCoderModel_command_299 : decode prog_14_method_116_code 299 = .ok (.invokevirtual 261, 3) := by decide +kernel
theorem d_MessageCoderModel_command_302 : decode prog_14_method_116_code 302 = .ok (.iastore, 1) := by decide +kernel
theorem d_MessageCoderModel_command_303 : decode prog_14_method_116_code 303 = .ok (.goto 20, 3) := by decide +kernel
theorem d_MessageCoderModel_command_306 : decode prog_14_method_116_code 306 = .ok (.aload_n 0, 1) := by decide +kernel
theorem d_MessageCoderModel_command_307 : decode prog_14_method_116_code 307 = .ok (.invokevirtual 276, 3) := by decide +kernel
theorem d_MessageCoderModel_command_310 : decode prog_14_method_116_code 310 = .ok (.goto 13, 3) := by decide +kernel
theorem d_MessageCoderModel_command_313 : decode prog_14_method_116_code 313 = .ok (.aload_n 0, 1) := by decide +kernel
theorem d_MessageCoderModel_command_314 : decode prog_14_method_116_code 314 = .ok (.iload_n 3, 1) := by decide +kernel
theorem d_MessageCoderModel_command_315 : decode prog_14_method_116_code 315 = .ok (.putfield 239, 3) := by decide +kernel
theorem d_MessageCoderModel_command_318 : decode prog_14_method_116_code 318 = .ok (.aload_n 0, 1) := by decide +kernel
theorem d_MessageCoderModel_command_319 : decode prog_14_method_116_code 319 = .ok (.iload_n 3, 1) := by decide +kernel
theorem d_MessageCoderModel_command_320 : decode prog_14_method_116_code 320 = .ok (.putfield 242, 3) := by decide +kernel
theorem d_MessageCoderModel_command_323 : decode prog_14_method_116_code 323 = .ok (.return_, 1) := by decide +kernel
set_option maxHeartbeats 4000000 in
set_option maxRecDepth 20000 in
theorem c_MessageCoderModel_command {P : xP} {F : xF} {z : Nat} {m : Nat} {th : Nat} {ch : Nat} {sv : Nat} {rs : Int32} {bm : Nat} {dm : Nat} {lz : Nat} {ty : Nat} {ea : Int32} {fa : Int32} {cn : Nat} {ip : Nat → Nat} {h : Nat} {cs : Nat → Nat} (o0 : F (m) = some (.inl (10, [.int (nI (th)), .ref (m + 1), .int (nI (ch)), .int (nI (sv)), .int rs, .ref (m + 2), .ref (m + 3), .ref (m + 4), .ref (m + 5), .ref (m + 6), .int (nI (bm)), .ref (m + 7), .int (nI (dm)), .ref (m + 8), .ref (m + 9), .int (nI (lz)), .ref (m + 10), .int (nI (ty)), .int (nI (h)), .int (eI (0)), .int ea, .int fa, .ref (m + 11), .int (nI (cn))]))) (hi : F (m + 10) = some (.inr (1, 60, fun b9 => .int (nI (ip b9))))) (hcm : F (m + 11) = some (.inr (0, 183, fun b9 => .int (nI (cs b9))))) (hs : ∀ j, j < ty → ip j < 65536) (hty : ty ≤ 60) (hh : h ≤ ty) (hcn : 3 * cn + 2 < 183) : xM P xy_MessageCoderModel_command [.ref m] F (z) 0 0 (fun r9 F9 z9 => ∃ h1 : Nat, ∃ e1 : Nat, ∃ cs1 : Nat → Nat, r9 = none ∧ z9 = z ∧ F9 (m) = some (.inl (10, [.int (nI (th)), .ref (m + 1), .int (nI (ch)), .int (nI (sv)), .int rs, .ref (m + 2), .ref (m + 3), .ref (m + 4), .ref (m + 5), .ref (m + 6), .int (nI (bm)), .ref (m + 7), .int (nI (dm)), .ref (m + 8), .ref (m + 9), .int (nI (lz)), .ref (m + 10), .int (nI (ty)), .int (nI (h1)), .int (eI (e1)), .int ea, .int fa, .ref (m + 11), .int (nI ((cn + 1)))])) ∧ F9 (m + 10) = some (.inr (1, 60, fun b9 => .int (nI (ip b9)))) ∧ F9 (m + 11) = some (.inr (0, 183, fun b9 => .int (nI (cs1 b9)))) ∧ (cmR ty ip h (3 * cn) h1 e1 cs1) ∧ (∀ q, q < 3 * cn ∨ 3 * cn + 3 ≤ q → cs1 q = cs q) ∧ (qB ty (h1, e1)) ∧ (∀ a9 : Nat, (a9 < m ∨ m + 1 ≤ a9) → (a9 < m + 11 ∨ m + 11 + 1 ≤ a9) → F9 a9 = F a9)) := by
  refine xM_v rfl (Nat.le_of_ble_eq_true rfl) (L0 := [some (.ref m), none, none, none]) rfl rfl fun Θ hC hin hret => ?_
  have hag : ∀ a9 : Nat, (a9 < m ∨ m + 1 ≤ a9) → (a9 < m + 11 ∨ m + 11 + 1 ≤ a9) → F a9 = F a9 := fun a9 _ _ => rfl
  refine x_iconst hC d_MessageCoderModel_command_0 (v := nI 3) (by decide) ?_
  refine x_aload_n hC d_MessageCoderModel_command_1 rfl rfl ?_
  refine x_getf hC kf_MessageCoderModel_264 o0 rfl d_MessageCoderModel_command_2 ?_
  refine x_imul hC d_MessageCoderModel_command_5 (v := (nI ((3) * (cn)))) (pk_mul _ _) ?_
  refine x_istore_n hC d_MessageCoderModel_command_6 rfl (Nat.le_of_ble_eq_true rfl) (L1 := [some (.ref m), some (.int (nI ((3) * (cn)))), none, none]) rfl ?_
  refine x_aload_n hC d_MessageCoderModel_command_7 rfl rfl ?_
  refine x_dup hC d_MessageCoderModel_command_8 rfl ?_
  refine x_getf hC kf_MessageCoderModel_264 o0 rfl d_MessageCoderModel_command_9 ?_
  refine x_iconst hC d_MessageCoderModel_command_12 (v := nI 1) (by decide) ?_
  refine x_iadd hC d_MessageCoderModel_command_13 (v := (nI (cn + 1))) (x_addN (by omega)) ?_
  refine x_putf hC kf_MessageCoderModel_264 o0 (Nat.le_of_ble_eq_true rfl) rfl rfl d_MessageCoderModel_command_14 (fs1 := [.int (nI (th)), .ref (m + 1), .int (nI (ch)), .int (nI (sv)), .int rs, .ref (m + 2), .ref (m + 3), .ref (m + 4), .ref (m + 5), .ref (m + 6), .int (nI (bm)), .ref (m + 7), .int (nI (dm)), .ref (m + 8), .ref (m + 9), .int (nI (lz)), .ref (m + 10), .int (nI (ty)), .int (nI (h)), .int (eI (0)), .int ea, .int fa, .ref (m + 11), .int (nI (cn + 1))]) rfl ?_
  generalize e1 : xup F (m) (.inl (10, [.int (nI (th)), .ref (m + 1), .int (nI (ch)), .int (nI (sv)), .int rs, .ref (m + 2), .ref (m + 3), .ref (m + 4), .ref (m + 5), .ref (m + 6), .int (nI (bm)), .ref (m + 7), .int (nI (dm)), .ref (m + 8), .ref (m + 9), .int (nI (lz)), .ref (m + 10), .int (nI (ty)), .int (nI (h)), .int (eI (0)), .int ea, .int fa, .ref (m + 11), .int (nI (cn + 1))])) = F1
  have o0 : F1 (m) = some (.inl (10, [.int (nI (th)), .ref (m + 1), .int (nI (ch)), .int (nI (sv)), .int rs, .ref (m + 2), .ref (m + 3), .ref (m + 4), .ref (m + 5), .ref (m + 6), .int (nI (bm)), .ref (m + 7), .int (nI (dm)), .ref (m + 8), .ref (m + 9), .int (nI (lz)), .ref (m + 10), .int (nI (ty)), .int (nI (h)), .int (eI (0)), .int ea, .int fa, .ref (m + 11), .int (nI (cn + 1))])) := by rw [← e1]; exact xup_eq
  have hi : F1 (m + 10) = some (.inr (1, 60, fun b9 => .int (nI (ip b9)))) := by rw [← e1]; exact (xup_ne (by omega)).trans hi
  have hcm : F1 (m + 11) = some (.inr (0, 183, fun b9 => .int (nI (cs b9)))) := by rw [← e1]; exact (xup_ne (by omega)).trans hcm
  have hag : ∀ a9 : Nat, (a9 < m ∨ m + 1 ≤ a9) → (a9 < m + 11 ∨ m + 11 + 1 ≤ a9) → F1 a9 = F a9 := fun a9 q0 q1 => by rw [← e1]; exact (xup_ne (by omega)).trans (hag a9 q0 q1)
  refine x_aload_n hC d_MessageCoderModel_command_17 rfl rfl ?_
  refine x_callV hC kv_MessageCoderModel_245 (c_MessageCoderModel_sign (o0 := o0) (hi := hi) (hs := hs) (hty := hty) (hq := ⟨hh, Nat.zero_le _⟩)) o0 rfl rfl (by decide) rfl rfl rfl (Nat.le_of_ble_eq_true rfl) (by decide) d_MessageCoderModel_command_18 (fun r9 F9 z9 hp9 => ?_)
  obtain ⟨rfl, h9b, h9c⟩ := hp9
  rw [h9b, h9c]
  clear h9b h9c F9 z9
  refine x_istore_n hC d_MessageCoderModel_command_21 rfl (Nat.le_of_ble_eq_true rfl) (L1 := [some (.ref m), some (.int (nI ((3) * (cn)))), some (.int (sgI ty ip h)), none]) rfl ?_
  refine x_aload_n hC d_MessageCoderModel_command_22 rfl rfl ?_
  refine x_getf hC kf_MessageCoderModel_239 o0 rfl d_MessageCoderModel_command_23 ?_
  refine x_istore_n hC d_MessageCoderModel_command_26 rfl (Nat.le_of_ble_eq_true rfl) (L1 := [some (.ref m), some (.int (nI ((3) * (cn)))), some (.int (sgI ty ip h)), some (.int (nI (h)))]) rfl ?_
  refine x_aload_n hC d_MessageCoderModel_command_27 rfl rfl ?_
  refine x_getf hC kf_MessageCoderModel_48 o0 rfl d_MessageCoderModel_command_28 ?_
  refine x_iload_n hC d_MessageCoderModel_command_31 rfl rfl ?_
  refine x_iload_n hC d_MessageCoderModel_command_32 rfl rfl ?_
  refine x_top (v := (nI (sgX ty ip h))) (sgX_I _ _ _) ?_
  refine x_iast hC hcm (j := (3) * (cn)) ⟨rfl, by omega, by omega⟩ d_MessageCoderModel_command_33 (g1 := fun b9 => nI (updN cs ((3) * (cn)) (sgX ty ip h) b9)) (x_updN _ _ _) ?_
  generalize ed0 : updN cs ((3) * (cn)) (sgX ty ip h) = d0
  generalize e3 : xup F1 (m + 11) (.inr (0, 183, fun b9 => .int (nI (d0 b9)))) = F3
  have o0 : F3 (m) = some (.inl (10, [.int (nI (th)), .ref (m + 1), .int (nI (ch)), .int (nI (sv)), .int rs, .ref (m + 2), .ref (m + 3), .ref (m + 4), .ref (m + 5), .ref (m + 6), .int (nI (bm)), .ref (m + 7), .int (nI (dm)), .ref (m + 8), .ref (m + 9), .int (nI (lz)), .ref (m + 10), .int (nI (ty)), .int (nI (h)), .int (eI (0)), .int ea, .int fa, .ref (m + 11), .int (nI (cn + 1))])) := by rw [← e3]; exact (xup_ne (by omega)).trans o0
  have hi : F3 (m + 10) = some (.inr (1, 60, fun b9 => .int (nI (ip b9)))) := by rw [← e3]; exact (xup_ne (by omega)).trans hi
  have hcm : F3 (m + 11) = some (.inr (0, 183, fun b9 => .int (nI (d0 b9)))) := by rw [← e3]; exact xup_eq
  have hag : ∀ a9 : Nat, (a9 < m ∨ m + 1 ≤ a9) → (a9 < m + 11 ∨ m + 11 + 1 ≤ a9) → F3 a9 = F a9 := fun a9 q0 q1 => by rw [← e3]; exact (xup_ne (by omega)).trans (hag a9 q0 q1)
  refine x_aload_n hC d_MessageCoderModel_command_34 rfl rfl ?_
  refine x_getf hC kf_MessageCoderModel_48 o0 rfl d_MessageCoderModel_command_35 ?_
  refine x_iload_n hC d_MessageCoderModel_command_38 rfl rfl ?_
  refine x_iconst hC d_MessageCoderModel_command_39 (v := nI 1) (by decide) ?_
  refine x_iadd hC d_MessageCoderModel_command_40 (v := (nI ((3) * (cn) + 1))) (x_addN (by omega)) ?_
  refine x_iconst hC d_MessageCoderModel_command_41 (v := nI 0) (by decide) ?_
  refine x_iast hC hcm (j := (3) * (cn) + 1) ⟨rfl, by omega, by omega⟩ d_MessageCoderModel_command_42 (g1 := fun b9 => nI (updN d0 ((3) * (cn) + 1) (0) b9)) (x_updN _ _ _) ?_
  generalize ed1 : updN d0 ((3) * (cn) + 1) (0) = d1
  generalize e5 : xup F3 (m + 11) (.inr (0, 183, fun b9 => .int (nI (d1 b9)))) = F5
  have o0 : F5 (m) = some (.inl (10, [.int (nI (th)), .ref (m + 1), .int (nI (ch)), .int (nI (sv)), .int rs, .ref (m + 2), .ref (m + 3), .ref (m + 4), .ref (m + 5), .ref (m + 6), .int (nI (bm)), .ref (m + 7), .int (nI (dm)), .ref (m + 8), .ref (m + 9), .int (nI (lz)), .ref (m + 10), .int (nI (ty)), .int (nI (h)), .int (eI (0)), .int ea, .int fa, .ref (m + 11), .int (nI (cn + 1))])) := by rw [← e5]; exact (xup_ne (by omega)).trans o0
  have hi : F5 (m + 10) = some (.inr (1, 60, fun b9 => .int (nI (ip b9)))) := by rw [← e5]; exact (xup_ne (by omega)).trans hi
  have hcm : F5 (m + 11) = some (.inr (0, 183, fun b9 => .int (nI (d1 b9)))) := by rw [← e5]; exact xup_eq
  have hag : ∀ a9 : Nat, (a9 < m ∨ m + 1 ≤ a9) → (a9 < m + 11 ∨ m + 11 + 1 ≤ a9) → F5 a9 = F a9 := fun a9 q0 q1 => by rw [← e5]; exact (xup_ne (by omega)).trans (hag a9 q0 q1)
  refine x_aload_n hC d_MessageCoderModel_command_43 rfl rfl ?_
  refine x_getf hC kf_MessageCoderModel_48 o0 rfl d_MessageCoderModel_command_44 ?_
  refine x_iload_n hC d_MessageCoderModel_command_47 rfl rfl ?_
  refine x_iconst hC d_MessageCoderModel_command_48 (v := nI 2) (by decide) ?_
  refine x_iadd hC d_MessageCoderModel_command_49 (v := (nI ((3) * (cn) + 2))) (x_addN (by omega)) ?_
  refine x_iconst hC d_MessageCoderModel_command_50 (v := nI 0) (by decide) ?_
  refine x_iast hC hcm (j := (3) * (cn) + 2) ⟨rfl, by omega, by omega⟩ d_MessageCoderModel_command_51 (g1 := fun b9 => nI (updN d1 ((3) * (cn) + 2) (0) b9)) (x_updN _ _ _) ?_
  generalize ed2 : updN d1 ((3) * (cn) + 2) (0) = d2
  generalize e7 : xup F5 (m + 11) (.inr (0, 183, fun b9 => .int (nI (d2 b9)))) = F7
  have o0 : F7 (m) = some (.inl (10, [.int (nI (th)), .ref (m + 1), .int (nI (ch)), .int (nI (sv)), .int rs, .ref (m + 2), .ref (m + 3), .ref (m + 4), .ref (m + 5), .ref (m + 6), .int (nI (bm)), .ref (m + 7), .int (nI (dm)), .ref (m + 8), .ref (m + 9), .int (nI (lz)), .ref (m + 10), .int (nI (ty)), .int (nI (h)), .int (eI (0)), .int ea, .int fa, .ref (m + 11), .int (nI (cn + 1))])) := by rw [← e7]; exact (xup_ne (by omega)).trans o0
  have hi : F7 (m + 10) = some (.inr (1, 60, fun b9 => .int (nI (ip b9)))) := by rw [← e7]; exact (xup_ne (by omega)).trans hi
  have hcm : F7 (m + 11) = some (.inr (0, 183, fun b9 => .int (nI (d2 b9)))) := by rw [← e7]; exact xup_eq
  have hag : ∀ a9 : Nat, (a9 < m ∨ m + 1 ≤ a9) → (a9 < m + 11 ∨ m + 11 + 1 ≤ a9) → F7 a9 = F a9 := fun a9 q0 q1 => by rw [← e7]; exact (xup_ne (by omega)).trans (hag a9 q0 q1)
  have w0 : d2 (3 * cn) = sgX ty ip h := by rw [← ed2, updN_ne (by omega), ← ed1, updN_ne (by omega), ← ed0]; exact updN_at rfl
  have w1 : d2 (3 * cn + 1) = 0 := by rw [← ed2, updN_ne (by omega), ← ed1]; exact updN_at rfl
  have w2 : d2 (3 * cn + 2) = 0 := by rw [← ed2]; exact updN_at rfl
  have wo : ∀ q, q < 3 * cn ∨ 3 * cn + 3 ≤ q → d2 q = cs q := fun q hq9 => by rw [← ed2, updN_ne (by omega), ← ed1, updN_ne (by omega), ← ed0, updN_ne (by omega)]
  refine x_aload_n hC d_MessageCoderModel_command_52 rfl rfl ?_
  refine x_dup hC d_MessageCoderModel_command_53 rfl ?_
  refine x_getf hC kf_MessageCoderModel_239 o0 rfl d_MessageCoderModel_command_54 ?_
  refine x_iconst hC d_MessageCoderModel_command_57 (v := nI 1) (by decide) ?_
  refine x_iadd hC d_MessageCoderModel_command_58 (v := (nI (h + 1))) (x_addN (by omega)) ?_
  refine x_putf hC kf_MessageCoderModel_239 o0 (Nat.le_of_ble_eq_true rfl) rfl rfl d_MessageCoderModel_command_59 (fs1 := [.int (nI (th)), .ref (m + 1), .int (nI (ch)), .int (nI (sv)), .int rs, .ref (m + 2), .ref (m + 3), .ref (m + 4), .ref (m + 5), .ref (m + 6), .int (nI (bm)), .ref (m + 7), .int (nI (dm)), .ref (m + 8), .ref (m + 9), .int (nI (lz)), .ref (m + 10), .int (nI (ty)), .int (nI (h + 1)), .int (eI (0)), .int ea, .int fa, .ref (m + 11), .int (nI (cn + 1))]) rfl ?_
  generalize e8 : xup F7 (m) (.inl (10, [.int (nI (th)), .ref (m + 1), .int (nI (ch)), .int (nI (sv)), .int rs, .ref (m + 2), .ref (m + 3), .ref (m + 4), .ref (m + 5), .ref (m + 6), .int (nI (bm)), .ref (m + 7), .int (nI (dm)), .ref (m + 8), .ref (m + 9), .int (nI (lz)), .ref (m + 10), .int (nI (ty)), .int (nI (h + 1)), .int (eI (0)), .int ea, .int fa, .ref (m + 11), .int (nI (cn + 1))])) = F8
  have o0 : F8 (m) = some (.inl (10, [.int (nI (th)), .ref (m + 1), .int (nI (ch)), .int (nI (sv)), .int rs, .ref (m + 2), .ref (m + 3), .ref (m + 4), .ref (m + 5), .ref (m + 6), .int (nI (bm)), .ref (m + 7), .int (nI (dm)), .ref (m + 8), .ref (m + 9), .int (nI (lz)), .ref (m + 10), .int (nI (ty)), .int (nI (h + 1)), .int (eI (0)), .int ea, .int fa, .ref (m + 11), .int (nI (cn + 1))])) := by rw [← e8]; exact xup_eq
  have hi : F8 (m + 10) = some (.inr (1, 60, fun b9 => .int (nI (ip b9)))) := by rw [← e8]; exact (xup_ne (by omega)).trans hi
  have hcm : F8 (m + 11) = some (.inr (0, 183, fun b9 => .int (nI (d2 b9)))) := by rw [← e8]; exact (xup_ne (by omega)).trans hcm
  have hag : ∀ a9 : Nat, (a9 < m ∨ m + 1 ≤ a9) → (a9 < m + 11 ∨ m + 11 + 1 ≤ a9) → F8 a9 = F a9 := fun a9 q0 q1 => by rw [← e8]; exact (xup_ne (by omega)).trans (hag a9 q0 q1)
  refine x_iload_n hC d_MessageCoderModel_command_62 rfl rfl ?_
  by_cases k_63_119 : (sgI ty ip h) = nI 119
  · skip
    refine x_top (v := nI 119) k_63_119 ?_
    refine x_tableIn hC d_MessageCoderModel_command_63 (by decide +kernel) (by decide +kernel) (off := 97) (by decide +kernel) (tgt := 160) (by decide) ?_
    have hX := (sg_eq hs (by decide)).mp k_63_119
    have hqa : qB ty (h + 1, 0) := ⟨hX.1, Nat.zero_le _⟩
    have w0 : d2 (3 * cn) = 119 := w0.trans ((if_pos hX.1).trans hX.2)
    refine x_aload_n hC d_MessageCoderModel_command_160 rfl rfl ?_
    refine x_iload_n hC d_MessageCoderModel_command_161 rfl rfl ?_
    refine x_callV hC kv_MessageCoderModel_267 (c_MessageCoderModel_weighing (o0 := o0) (hi := hi) (hcm := hcm) (hs := hs) (hty := hty) (hq := hqa) (hr := by omega)) o0 rfl rfl (by decide) rfl rfl rfl (Nat.le_of_ble_eq_true rfl) (by decide) d_MessageCoderModel_command_162 (fun r9 F9 z9 hp9 => ?_)
    obtain ⟨h1_162, e1_162, y1_162, v1_162, rfl, h9c, j0, j1, j2, pk_162, pb_162, hag9⟩ := hp9
    rw [h9c]
    clear h9c z9
    generalize F9 = F9 at *
    have o0 : F9 (m) = some (.inl (10, [.int (nI (th)), .ref (m + 1), .int (nI (ch)), .int (nI (sv)), .int rs, .ref (m + 2), .ref (m + 3), .ref (m + 4), .ref (m + 5), .ref (m + 6), .int (nI (bm)), .ref (m + 7), .int (nI (dm)), .ref (m + 8), .ref (m + 9), .int (nI (lz)), .ref (m + 10), .int (nI (ty)), .int (nI (h1_162)), .int (eI (e1_162)), .int ea, .int fa, .ref (m + 11), .int (nI ((cn + 1)))])) := j0
    have hi : F9 (m + 10) = some (.inr (1, 60, fun b9 => .int (nI (ip b9)))) := j1
    have hcm : F9 (m + 11) = some (.inr (0, 183, fun b9 => .int (nI ((updN (updN d2 (((3) * (cn)) + 1) y1_162) (((3) * (cn)) + 2) v1_162) b9)))) := j2
    have hag : ∀ a9 : Nat, (a9 < m ∨ m + 1 ≤ a9) → (a9 < m + 11 ∨ m + 11 + 1 ≤ a9) → F9 a9 = F a9 := fun a9 q0 q1 => (hag9 a9 (by omega) (by omega)).trans (hag a9 q0 q1)
    have hg_162 := hag9
    clear hag9
    refine x_goto hC d_MessageCoderModel_command_165 (tgt := 323) (by decide) ?_
    refine hret _ _ _ _ _ _ d_MessageCoderModel_command_323 (by decide) (by decide) ?_
    have e7 : (wgQ ty ip (h + 1, 0)).1 = (h1_162, e1_162) := by rw [pk_162]
    have e8 : (wgQ ty ip (h + 1, 0)).2 = (y1_162, v1_162) := by rw [pk_162]
    have hv : (pTry ty ip h 0).1 = true → (updN (updN d2 (3 * cn + 1) y1_162) (3 * cn + 2) v1_162) (3 * cn + 1) = (pTry ty ip h 0).2.2.1 ∧ (updN (updN d2 (3 * cn + 1) y1_162) (3 * cn + 2) v1_162) (3 * cn + 2) = (pTry ty ip h 0).2.2.2.1 := fun q => by rw [(tr_0 hX).2 q, updN_eq, updN_ne (by omega), updN_eq]; exact ⟨(congrArg Prod.fst e8).symm, (congrArg Prod.snd e8).symm⟩
    exact ⟨_, _, _, rfl, rfl, o0, hi, hcm, cmR_mk (J := 0) (by decide) (by decide) (by decide) hX ((tr_0 hX).1.trans e7) (by rw [updN_ne (by omega), updN_ne (by omega)]; exact w0) hv, fun q hq9 => by rw [updN_ne (by omega), updN_ne (by omega)]; exact wo q hq9, pb_162.2.2, hag⟩
  · skip
    by_cases k_63_100 : (sgI ty ip h) = nI 100
    · skip
      refine x_top (v := nI 100) k_63_100 ?_
      refine x_tableIn hC d_MessageCoderModel_command_63 (by decide +kernel) (by decide +kernel) (off := 105) (by decide +kernel) (tgt := 168) (by decide) ?_
      have hX := (sg_eq hs (by decide)).mp k_63_100
      have hqa : qB ty (h + 1, 0) := ⟨hX.1, Nat.zero_le _⟩
      have w0 : d2 (3 * cn) = 100 := w0.trans ((if_pos hX.1).trans hX.2)
      refine x_aload_n hC d_MessageCoderModel_command_168 rfl rfl ?_
      refine x_iload_n hC d_MessageCoderModel_command_169 rfl rfl ?_
      refine x_callV hC kv_MessageCoderModel_270 (c_MessageCoderModel_draftOrDrop (o0 := o0) (hi := hi) (hcm := hcm) (hs := hs) (hty := hty) (hq := hqa) (hr := by omega)) o0 rfl rfl (by decide) rfl rfl rfl (Nat.le_of_ble_eq_true rfl) (by decide) d_MessageCoderModel_command_170 (fun r9 F9 z9 hp9 => ?_)
      obtain ⟨h1_170, e1_170, cs1_170, rfl, h9c, j0, j1, j2, pk_170, pt_170, pf_170, po_170, pb_170, hag9⟩ := hp9
      rw [h9c]
      clear h9c z9
      generalize F9 = F10 at *
      have o0 : F10 (m) = some (.inl (10, [.int (nI (th)), .ref (m + 1), .int (nI (ch)), .int (nI (sv)), .int rs, .ref (m + 2), .ref (m + 3), .ref (m + 4), .ref (m + 5), .ref (m + 6), .int (nI (bm)), .ref (m + 7), .int (nI (dm)), .ref (m + 8), .ref (m + 9), .int (nI (lz)), .ref (m + 10), .int (nI (ty)), .int (nI (h1_170)), .int (eI (e1_170)), .int ea, .int fa, .ref (m + 11), .int (nI ((cn + 1)))])) := j0
      have hi : F10 (m + 10) = some (.inr (1, 60, fun b9 => .int (nI (ip b9)))) := j1
      have hcm : F10 (m + 11) = some (.inr (0, 183, fun b9 => .int (nI (cs1_170 b9)))) := j2
      have hag : ∀ a9 : Nat, (a9 < m ∨ m + 1 ≤ a9) → (a9 < m + 11 ∨ m + 11 + 1 ≤ a9) → F10 a9 = F a9 := fun a9 q0 q1 => (hag9 a9 (by omega) (by omega)).trans (hag a9 q0 q1)
      have hg_170 := hag9
      clear hag9
      refine x_goto hC d_MessageCoderModel_command_173 (tgt := 323) (by decide) ?_
      refine hret _ _ _ _ _ _ d_MessageCoderModel_command_323 (by decide) (by decide) ?_
      obtain ⟨g1, g2, g3⟩ := cmd_d hX
      rw [pk_170] at g2 g3
      have ko9 : ∀ q, q < 3 * cn ∨ 3 * cn + 3 ≤ q → cs1_170 q = cs q := fun q hq9 => (po_170 q (by omega) (by omega) (by omega)).trans (wo q hq9)
      refine ⟨h1_170, e1_170, cs1_170, rfl, rfl, o0, hi, hcm, ⟨⟨(if (ddQ ty ip (h + 1, 0)).1 = true then 1 else 4), (by split <;> omega), fun e => ?_⟩, fun e => g3 e⟩, ko9, pb_170, hag⟩
      have hQ := g1.symm.trans pk_170
      have hok : (pTry ty ip h (if (ddQ ty ip (h + 1, 0)).1 = true then 1 else 4)).1 = true := Qs_0.mp (by rw [hQ]; exact e)
      have hp1 : (pTry ty ip h (if (ddQ ty ip (h + 1, 0)).1 = true then 1 else 4)).2.1 = h1_170 := by rw [← Qs_1, hQ]
      refine ⟨g2 e, hp1, ?_⟩
      by_cases cb : (ddQ ty ip (h + 1, 0)).1 = true
      · rw [if_pos cb] at hok hp1 ⊢
        obtain ⟨u1, u2, u3⟩ := pt_170 cb
        obtain ⟨u4, u5, u6⟩ := u3 e
        obtain ⟨u7, u8⟩ := (tr_1 hX).2 hok
        exact ⟨u2.trans w0, u4.trans u7.symm, by rw [if_pos rfl, u8, u7, hp1]; exact u5⟩
      · have cf : (ddQ ty ip (h + 1, 0)).1 = false := by cases hcf : (ddQ ty ip (h + 1, 0)).1; rfl; exact absurd hcf cb
        rw [if_neg cb] at hok hp1 ⊢
        obtain ⟨u1, u2, u3, u4⟩ := pf_170 cf
        have u5 := (tr_4 hX).2 hok
        rw [u1] at u5
        rw [u5]
        exact ⟨u2, rfl, u3.trans w2⟩
    · skip
      by_cases k_63_99 : (sgI ty ip h) = nI 99
      · skip
        refine x_top (v := nI 99) k_63_99 ?_
        refine x_tableIn hC d_MessageCoderModel_command_63 (by decide +kernel) (by decide +kernel) (off := 113) (by decide +kernel) (tgt := 176) (by decide) ?_
        have hX := (sg_eq hs (by decide)).mp k_63_99
        have hqa : qB ty (h + 1, 0) := ⟨hX.1, Nat.zero_le _⟩
        have w0 : d2 (3 * cn) = 99 := w0.trans ((if_pos hX.1).trans hX.2)
        refine x_aload_n hC d_MessageCoderModel_command_176 rfl rfl ?_
        refine x_bipush hC d_MessageCoderModel_command_177 (v := nI 108) (by decide) ?_
        refine x_bipush hC d_MessageCoderModel_command_179 (v := nI 101) (by decide) ?_
        refine x_bipush hC d_MessageCoderModel_command_181 (v := nI 97) (by decide) ?_
        refine x_callV hC kv_MessageCoderModel_251 (c_MessageCoderModel_letters (o0 := o0) (hi := hi) (hs := hs) (hty := hty) (hq := hqa) (h1c := by omega) (h2c := by omega) (h3c := by omega)) o0 rfl rfl (by decide) rfl rfl rfl (Nat.le_of_ble_eq_true rfl) (by decide) d_MessageCoderModel_command_183 (fun r9 F9 z9 hp9 => ?_)
        obtain ⟨h1_183, e1_183, rfl, h9c, j0, j1, pk_183, hag9⟩ := hp9
        rw [h9c]
        clear h9c z9
        generalize F9 = F11 at *
        have hcm : F11 (m + 11) = some (.inr (0, 183, fun b9 => .int (nI (d2 b9)))) := (hag9 _ (by omega)).trans hcm
        have o0 : F11 (m) = some (.inl (10, [.int (nI (th)), .ref (m + 1), .int (nI (ch)), .int (nI (sv)), .int rs, .ref (m + 2), .ref (m + 3), .ref (m + 4), .ref (m + 5), .ref (m + 6), .int (nI (bm)), .ref (m + 7), .int (nI (dm)), .ref (m + 8), .ref (m + 9), .int (nI (lz)), .ref (m + 10), .int (nI (ty)), .int (nI (h1_183)), .int (eI (e1_183)), .int ea, .int fa, .ref (m + 11), .int (nI ((cn + 1)))])) := j0
        have hi : F11 (m + 10) = some (.inr (1, 60, fun b9 => .int (nI (ip b9)))) := j1
        have hag : ∀ a9 : Nat, (a9 < m ∨ m + 1 ≤ a9) → (a9 < m + 11 ∨ m + 11 + 1 ≤ a9) → F11 a9 = F a9 := fun a9 q0 q1 => (hag9 a9 (by omega)).trans (hag a9 q0 q1)
        have hg_183 := hag9
        clear hag9
        have hq_183 : qB ty (h1_183, e1_183) := by rw [← pk_183]; exact nd_B (nd_B (nd_B hqa))
        refine x_aload_n hC d_MessageCoderModel_command_186 rfl rfl ?_
        refine x_bipush hC d_MessageCoderModel_command_187 (v := nI 114) (by decide) ?_
        refine x_callV hC kv_MessageCoderModel_248 (c_MessageCoderModel_needs (o0 := o0) (hi := hi) (hs := hs) (hty := hty) (hq := hq_183) (hc := by omega)) o0 rfl rfl (by decide) rfl rfl rfl (Nat.le_of_ble_eq_true rfl) (by decide) d_MessageCoderModel_command_189 (fun r9 F9 z9 hp9 => ?_)
        obtain ⟨h1_189, e1_189, rfl, h9c, j0, j1, pk_189, hag9⟩ := hp9
        rw [h9c]
        clear h9c z9
        generalize F9 = F12 at *
        have hcm : F12 (m + 11) = some (.inr (0, 183, fun b9 => .int (nI (d2 b9)))) := (hag9 _ (by omega)).trans hcm
        have o0 : F12 (m) = some (.inl (10, [.int (nI (th)), .ref (m + 1), .int (nI (ch)), .int (nI (sv)), .int rs, .ref (m + 2), .ref (m + 3), .ref (m + 4), .ref (m + 5), .ref (m + 6), .int (nI (bm)), .ref (m + 7), .int (nI (dm)), .ref (m + 8), .ref (m + 9), .int (nI (lz)), .ref (m + 10), .int (nI (ty)), .int (nI (h1_189)), .int (eI (e1_189)), .int ea, .int fa, .ref (m + 11), .int (nI ((cn + 1)))])) := j0
        have hi : F12 (m + 10) = some (.inr (1, 60, fun b9 => .int (nI (ip b9)))) := j1
        have hag : ∀ a9 : Nat, (a9 < m ∨ m + 1 ≤ a9) → (a9 < m + 11 ∨ m + 11 + 1 ≤ a9) → F12 a9 = F a9 := fun a9 q0 q1 => (hag9 a9 (by omega)).trans (hag a9 q0 q1)
        have hg_189 := hag9
        clear hag9
        have hq_189 : qB ty (h1_189, e1_189) := by rw [← pk_189]; exact nd_B hq_183
        refine x_goto hC d_MessageCoderModel_command_192 (tgt := 323) (by decide) ?_
        refine hret _ _ _ _ _ _ d_MessageCoderModel_command_323 (by decide) (by decide) ?_
        exact ⟨_, _, d2, rfl, rfl, o0, hi, hcm, cmR_mk (J := 2) (by decide) (by decide) (by decide) hX (by rw [tr_2 hX, pk_183]; exact pk_189) w0 (fun q => (by have h9 : (pTry ty ip h 2).2.2 = (0, 0, 0) := fo_p (j := 2) (K := 5) (by decide) q; rw [h9]; exact ⟨w1, w2⟩)), wo, hq_189, hag⟩
      · skip
        by_cases k_63_112 : (sgI ty ip h) = nI 112
        · skip
          refine x_top (v := nI 112) k_63_112 ?_
          refine x_tableIn hC d_MessageCoderModel_command_63 (by decide +kernel) (by decide +kernel) (off := 132) (by decide +kernel) (tgt := 195) (by decide) ?_
          have hX := (sg_eq hs (by decide)).mp k_63_112
          have hqa : qB ty (h + 1, 0) := ⟨hX.1, Nat.zero_le _⟩
          have w0 : d2 (3 * cn) = 112 := w0.trans ((if_pos hX.1).trans hX.2)
          refine x_aload_n hC d_MessageCoderModel_command_195 rfl rfl ?_
          refine x_bipush hC d_MessageCoderModel_command_196 (v := nI 111) (by decide) ?_
          refine x_bipush hC d_MessageCoderModel_command_198 (v := nI 115) (by decide) ?_
          refine x_bipush hC d_MessageCoderModel_command_200 (v := nI 116) (by decide) ?_
          refine x_callV hC kv_MessageCoderModel_251 (c_MessageCoderModel_letters (o0 := o0) (hi := hi) (hs := hs) (hty := hty) (hq := hqa) (h1c := by omega) (h2c := by omega) (h3c := by omega)) o0 rfl rfl (by decide) rfl rfl rfl (Nat.le_of_ble_eq_true rfl) (by decide) d_MessageCoderModel_command_202 (fun r9 F9 z9 hp9 => ?_)
          obtain ⟨h1_202, e1_202, rfl, h9c, j0, j1, pk_202, hag9⟩ := hp9
          rw [h9c]
          clear h9c z9
          generalize F9 = F13 at *
          have hcm : F13 (m + 11) = some (.inr (0, 183, fun b9 => .int (nI (d2 b9)))) := (hag9 _ (by omega)).trans hcm
          have o0 : F13 (m) = some (.inl (10, [.int (nI (th)), .ref (m + 1), .int (nI (ch)), .int (nI (sv)), .int rs, .ref (m + 2), .ref (m + 3), .ref (m + 4), .ref (m + 5), .ref (m + 6), .int (nI (bm)), .ref (m + 7), .int (nI (dm)), .ref (m + 8), .ref (m + 9), .int (nI (lz)), .ref (m + 10), .int (nI (ty)), .int (nI (h1_202)), .int (eI (e1_202)), .int ea, .int fa, .ref (m + 11), .int (nI ((cn + 1)))])) := j0
          have hi : F13 (m + 10) = some (.inr (1, 60, fun b9 => .int (nI (ip b9)))) := j1
          have hag : ∀ a9 : Nat, (a9 < m ∨ m + 1 ≤ a9) → (a9 < m + 11 ∨ m + 11 + 1 ≤ a9) → F13 a9 = F a9 := fun a9 q0 q1 => (hag9 a9 (by omega)).trans (hag a9 q0 q1)
          have hg_202 := hag9
          clear hag9
          have hq_202 : qB ty (h1_202, e1_202) := by rw [← pk_202]; exact nd_B (nd_B (nd_B hqa))
          refine x_aload_n hC d_MessageCoderModel_command_205 rfl rfl ?_
          refine x_getf hC kf_MessageCoderModel_48 o0 rfl d_MessageCoderModel_command_206 ?_
          refine x_iload_n hC d_MessageCoderModel_command_209 rfl rfl ?_
          refine x_iconst hC d_MessageCoderModel_command_210 (v := nI 1) (by decide) ?_
          refine x_iadd hC d_MessageCoderModel_command_211 (v := (nI ((3) * (cn) + 1))) (x_addN (by omega)) ?_
          refine x_aload_n hC d_MessageCoderModel_command_212 rfl rfl ?_
          refine x_bipush hC d_MessageCoderModel_command_213 (v := nI 32) (by decide) ?_
          refine x_iconst hC d_MessageCoderModel_command_215 (v := nI 1) (by decide) ?_
          refine x_callV hC kv_MessageCoderModel_261 (c_MessageCoderModel_behind (o0 := o0) (hi := hi) (hs := hs) (hty := hty) (hq := hq_202) (hc := by omega) (hmm := by omega)) o0 rfl rfl (by decide) rfl rfl rfl (Nat.le_of_ble_eq_true rfl) (by decide) d_MessageCoderModel_command_216 (fun r9 F9 z9 hp9 => ?_)
          obtain ⟨h1_216, e1_216, v1_216, rfl, h9c, j0, j1, pk_216, hag9⟩ := hp9
          rw [h9c]
          clear h9c z9
          generalize F9 = F14 at *
          have hcm : F14 (m + 11) = some (.inr (0, 183, fun b9 => .int (nI (d2 b9)))) := (hag9 _ (by omega)).trans hcm
          have o0 : F14 (m) = some (.inl (10, [.int (nI (th)), .ref (m + 1), .int (nI (ch)), .int (nI (sv)), .int rs, .ref (m + 2), .ref (m + 3), .ref (m + 4), .ref (m + 5), .ref (m + 6), .int (nI (bm)), .ref (m + 7), .int (nI (dm)), .ref (m + 8), .ref (m + 9), .int (nI (lz)), .ref (m + 10), .int (nI (ty)), .int (nI (h1_216)), .int (eI (e1_216)), .int ea, .int fa, .ref (m + 11), .int (nI ((cn + 1)))])) := j0
          have hi : F14 (m + 10) = some (.inr (1, 60, fun b9 => .int (nI (ip b9)))) := j1
          have hag : ∀ a9 : Nat, (a9 < m ∨ m + 1 ≤ a9) → (a9 < m + 11 ∨ m + 11 + 1 ≤ a9) → F14 a9 = F a9 := fun a9 q0 q1 => (hag9 a9 (by omega)).trans (hag a9 q0 q1)
          have hg_216 := hag9
          clear hag9
          have hq_216 : qB ty (h1_216, e1_216) ∧ v1_216 < 1000 := by have h9 := bh_B (s := ip) (c := 32) (m := 1) hq_202 (by omega); rw [pk_216] at h9; exact h9
          refine x_iast hC hcm (j := (3) * (cn) + 1) ⟨rfl, by omega, by omega⟩ d_MessageCoderModel_command_219 (g1 := fun b9 => nI (updN d2 ((3) * (cn) + 1) (v1_216) b9)) (x_updN _ _ _) ?_
          generalize ed3 : updN d2 ((3) * (cn) + 1) (v1_216) = d3
          generalize e16 : xup F14 (m + 11) (.inr (0, 183, fun b9 => .int (nI (d3 b9)))) = F16
          have hcm : F16 (m + 11) = some (.inr (0, 183, fun b9 => .int (nI (d3 b9)))) := by rw [← e16]; exact xup_eq
          have o0 : F16 (m) = some (.inl (10, [.int (nI (th)), .ref (m + 1), .int (nI (ch)), .int (nI (sv)), .int rs, .ref (m + 2), .ref (m + 3), .ref (m + 4), .ref (m + 5), .ref (m + 6), .int (nI (bm)), .ref (m + 7), .int (nI (dm)), .ref (m + 8), .ref (m + 9), .int (nI (lz)), .ref (m + 10), .int (nI (ty)), .int (nI (h1_216)), .int (eI (e1_216)), .int ea, .int fa, .ref (m + 11), .int (nI ((cn + 1)))])) := by rw [← e16]; exact (xup_ne (by omega)).trans o0
          have hi : F16 (m + 10) = some (.inr (1, 60, fun b9 => .int (nI (ip b9)))) := by rw [← e16]; exact (xup_ne (by omega)).trans hi
          have hag : ∀ a9 : Nat, (a9 < m ∨ m + 1 ≤ a9) → (a9 < m + 11 ∨ m + 11 + 1 ≤ a9) → F16 a9 = F a9 := fun a9 q0 q1 => by rw [← e16]; exact (xup_ne (by omega)).trans (hag a9 q0 q1)
          refine x_goto hC d_MessageCoderModel_command_220 (tgt := 323) (by decide) ?_
          refine hret _ _ _ _ _ _ d_MessageCoderModel_command_323 (by decide) (by decide) ?_
          exact ⟨_, _, d3, rfl, rfl, o0, hi, hcm, cmR_mk (J := 3) (by decide) (by decide) (by decide) hX (by rw [(tr_3 hX).1, pk_202, pk_216]) (by rw [← ed3, updN_ne (by omega)]; exact w0) (fun q => by rw [(tr_3 hX).2 q, pk_202, pk_216]; exact ⟨by rw [← ed3]; exact updN_at rfl, by rw [← ed3, updN_ne (by omega)]; exact w2⟩), fun q hq9 => by rw [← ed3, updN_ne (by omega)]; exact wo q hq9, hq_216.1, hag⟩
        · skip
          by_cases k_63_104 : (sgI ty ip h) = nI 104
          · skip
            refine x_top (v := nI 104) k_63_104 ?_
            refine x_tableIn hC d_MessageCoderModel_command_63 (by decide +kernel) (by decide +kernel) (off := 160) (by decide +kernel) (tgt := 223) (by decide) ?_
            have hX := (sg_eq hs (by decide)).mp k_63_104
            have hqa : qB ty (h + 1, 0) := ⟨hX.1, Nat.zero_le _⟩
            have w0 : d2 (3 * cn) = 104 := w0.trans ((if_pos hX.1).trans hX.2)
            refine x_aload_n hC d_MessageCoderModel_command_223 rfl rfl ?_
            refine x_iload_n hC d_MessageCoderModel_command_224 rfl rfl ?_
            refine x_callV hC kv_MessageCoderModel_273 (c_MessageCoderModel_hurrying (o0 := o0) (hi := hi) (hcm := hcm) (hs := hs) (hty := hty) (hq := hqa) (hr := by omega)) o0 rfl rfl (by decide) rfl rfl rfl (Nat.le_of_ble_eq_true rfl) (by decide) d_MessageCoderModel_command_225 (fun r9 F9 z9 hp9 => ?_)
            obtain ⟨h1_225, e1_225, y1_225, v1_225, rfl, h9c, j0, j1, j2, pk_225, pb_225, hag9⟩ := hp9
            rw [h9c]
            clear h9c z9
            generalize F9 = F17 at *
            have o0 : F17 (m) = some (.inl (10, [.int (nI (th)), .ref (m + 1), .int (nI (ch)), .int (nI (sv)), .int rs, .ref (m + 2), .ref (m + 3), .ref (m + 4), .ref (m + 5), .ref (m + 6), .int (nI (bm)), .ref (m + 7), .int (nI (dm)), .ref (m + 8), .ref (m + 9), .int (nI (lz)), .ref (m + 10), .int (nI (ty)), .int (nI (h1_225)), .int (eI (e1_225)), .int ea, .int fa, .ref (m + 11), .int (nI ((cn + 1)))])) := j0
            have hi : F17 (m + 10) = some (.inr (1, 60, fun b9 => .int (nI (ip b9)))) := j1
            have hcm : F17 (m + 11) = some (.inr (0, 183, fun b9 => .int (nI ((updN (updN d2 (((3) * (cn)) + 1) y1_225) (((3) * (cn)) + 2) v1_225) b9)))) := j2
            have hag : ∀ a9 : Nat, (a9 < m ∨ m + 1 ≤ a9) → (a9 < m + 11 ∨ m + 11 + 1 ≤ a9) → F17 a9 = F a9 := fun a9 q0 q1 => (hag9 a9 (by omega) (by omega)).trans (hag a9 q0 q1)
            have hg_225 := hag9
            clear hag9
            refine x_goto hC d_MessageCoderModel_command_228 (tgt := 323) (by decide) ?_
            refine hret _ _ _ _ _ _ d_MessageCoderModel_command_323 (by decide) (by decide) ?_
            have e7 : (huQ ty ip (h + 1, 0)).1 = (h1_225, e1_225) := by rw [pk_225]
            have e8 : (huQ ty ip (h + 1, 0)).2 = (y1_225, v1_225) := by rw [pk_225]
            have hv : (pTry ty ip h 5).1 = true → (updN (updN d2 (3 * cn + 1) y1_225) (3 * cn + 2) v1_225) (3 * cn + 1) = (pTry ty ip h 5).2.2.1 ∧ (updN (updN d2 (3 * cn + 1) y1_225) (3 * cn + 2) v1_225) (3 * cn + 2) = (pTry ty ip h 5).2.2.2.1 := fun q => by rw [(tr_5 hX).2 q, updN_eq, updN_ne (by omega), updN_eq]; exact ⟨(congrArg Prod.fst e8).symm, (congrArg Prod.snd e8).symm⟩
            exact ⟨_, _, _, rfl, rfl, o0, hi, hcm, cmR_mk (J := 5) (by decide) (by decide) (by decide) hX ((tr_5 hX).1.trans e7) (by rw [updN_ne (by omega), updN_ne (by omega)]; exact w0) hv, fun q hq9 => by rw [updN_ne (by omega), updN_ne (by omega)]; exact wo q hq9, pb_225.2.2, hag⟩
          · skip
            by_cases k_63_108 : (sgI ty ip h) = nI 108
            · skip
              refine x_top (v := nI 108) k_63_108 ?_
              refine x_tableIn hC d_MessageCoderModel_command_63 (by decide +kernel) (by decide +kernel) (off := 168) (by decide +kernel) (tgt := 231) (by decide) ?_
              have hX := (sg_eq hs (by decide)).mp k_63_108
              have hqa : qB ty (h + 1, 0) := ⟨hX.1, Nat.zero_le _⟩
              have w0 : d2 (3 * cn) = 108 := w0.trans ((if_pos hX.1).trans hX.2)
              refine x_aload_n hC d_MessageCoderModel_command_231 rfl rfl ?_
              refine x_bipush hC d_MessageCoderModel_command_232 (v := nI 101) (by decide) ?_
              refine x_bipush hC d_MessageCoderModel_command_234 (v := nI 97) (by decide) ?_
              refine x_bipush hC d_MessageCoderModel_command_236 (v := nI 114) (by decide) ?_
              refine x_callV hC kv_MessageCoderModel_251 (c_MessageCoderModel_letters (o0 := o0) (hi := hi) (hs := hs) (hty := hty) (hq := hqa) (h1c := by omega) (h2c := by omega) (h3c := by omega)) o0 rfl rfl (by decide) rfl rfl rfl (Nat.le_of_ble_eq_true rfl) (by decide) d_MessageCoderModel_command_238 (fun r9 F9 z9 hp9 => ?_)
              obtain ⟨h1_238, e1_238, rfl, h9c, j0, j1, pk_238, hag9⟩ := hp9
              rw [h9c]
              clear h9c z9
              generalize F9 = F18 at *
              have hcm : F18 (m + 11) = some (.inr (0, 183, fun b9 => .int (nI (d2 b9)))) := (hag9 _ (by omega)).trans hcm
              have o0 : F18 (m) = some (.inl (10, [.int (nI (th)), .ref (m + 1), .int (nI (ch)), .int (nI (sv)), .int rs, .ref (m + 2), .ref (m + 3), .ref (m + 4), .ref (m + 5), .ref (m + 6), .int (nI (bm)), .ref (m + 7), .int (nI (dm)), .ref (m + 8), .ref (m + 9), .int (nI (lz)), .ref (m + 10), .int (nI (ty)), .int (nI (h1_238)), .int (eI (e1_238)), .int ea, .int fa, .ref (m + 11), .int (nI ((cn + 1)))])) := j0
              have hi : F18 (m + 10) = some (.inr (1, 60, fun b9 => .int (nI (ip b9)))) := j1
              have hag : ∀ a9 : Nat, (a9 < m ∨ m + 1 ≤ a9) → (a9 < m + 11 ∨ m + 11 + 1 ≤ a9) → F18 a9 = F a9 := fun a9 q0 q1 => (hag9 a9 (by omega)).trans (hag a9 q0 q1)
              have hg_238 := hag9
              clear hag9
              have hq_238 : qB ty (h1_238, e1_238) := by rw [← pk_238]; exact nd_B (nd_B (nd_B hqa))
              refine x_aload_n hC d_MessageCoderModel_command_241 rfl rfl ?_
              refine x_bipush hC d_MessageCoderModel_command_242 (v := nI 110) (by decide) ?_
              refine x_callV hC kv_MessageCoderModel_248 (c_MessageCoderModel_needs (o0 := o0) (hi := hi) (hs := hs) (hty := hty) (hq := hq_238) (hc := by omega)) o0 rfl rfl (by decide) rfl rfl rfl (Nat.le_of_ble_eq_true rfl) (by decide) d_MessageCoderModel_command_244 (fun r9 F9 z9 hp9 => ?_)
              obtain ⟨h1_244, e1_244, rfl, h9c, j0, j1, pk_244, hag9⟩ := hp9
              rw [h9c]
              clear h9c z9
              generalize F9 = F19 at *
              have hcm : F19 (m + 11) = some (.inr (0, 183, fun b9 => .int (nI (d2 b9)))) := (hag9 _ (by omega)).trans hcm
              have o0 : F19 (m) = some (.inl (10, [.int (nI (th)), .ref (m + 1), .int (nI (ch)), .int (nI (sv)), .int rs, .ref (m + 2), .ref (m + 3), .ref (m + 4), .ref (m + 5), .ref (m + 6), .int (nI (bm)), .ref (m + 7), .int (nI (dm)), .ref (m + 8), .ref (m + 9), .int (nI (lz)), .ref (m + 10), .int (nI (ty)), .int (nI (h1_244)), .int (eI (e1_244)), .int ea, .int fa, .ref (m + 11), .int (nI ((cn + 1)))])) := j0
              have hi : F19 (m + 10) = some (.inr (1, 60, fun b9 => .int (nI (ip b9)))) := j1
              have hag : ∀ a9 : Nat, (a9 < m ∨ m + 1 ≤ a9) → (a9 < m + 11 ∨ m + 11 + 1 ≤ a9) → F19 a9 = F a9 := fun a9 q0 q1 => (hag9 a9 (by omega)).trans (hag a9 q0 q1)
              have hg_244 := hag9
              clear hag9
              have hq_244 : qB ty (h1_244, e1_244) := by rw [← pk_244]; exact nd_B hq_238
              refine x_aload_n hC d_MessageCoderModel_command_247 rfl rfl ?_
              refine x_getf hC kf_MessageCoderModel_48 o0 rfl d_MessageCoderModel_command_248 ?_
              refine x_iload_n hC d_MessageCoderModel_command_251 rfl rfl ?_
              refine x_iconst hC d_MessageCoderModel_command_252 (v := nI 1) (by decide) ?_
              refine x_iadd hC d_MessageCoderModel_command_253 (v := (nI ((3) * (cn) + 1))) (x_addN (by omega)) ?_
              refine x_aload_n hC d_MessageCoderModel_command_254 rfl rfl ?_
              refine x_bipush hC d_MessageCoderModel_command_255 (v := nI 32) (by decide) ?_
              refine x_iconst hC d_MessageCoderModel_command_257 (v := nI 3) (by decide) ?_
              refine x_callV hC kv_MessageCoderModel_261 (c_MessageCoderModel_behind (o0 := o0) (hi := hi) (hs := hs) (hty := hty) (hq := hq_244) (hc := by omega) (hmm := by omega)) o0 rfl rfl (by decide) rfl rfl rfl (Nat.le_of_ble_eq_true rfl) (by decide) d_MessageCoderModel_command_258 (fun r9 F9 z9 hp9 => ?_)
              obtain ⟨h1_258, e1_258, v1_258, rfl, h9c, j0, j1, pk_258, hag9⟩ := hp9
              rw [h9c]
              clear h9c z9
              generalize F9 = F20 at *
              have hcm : F20 (m + 11) = some (.inr (0, 183, fun b9 => .int (nI (d2 b9)))) := (hag9 _ (by omega)).trans hcm
              have o0 : F20 (m) = some (.inl (10, [.int (nI (th)), .ref (m + 1), .int (nI (ch)), .int (nI (sv)), .int rs, .ref (m + 2), .ref (m + 3), .ref (m + 4), .ref (m + 5), .ref (m + 6), .int (nI (bm)), .ref (m + 7), .int (nI (dm)), .ref (m + 8), .ref (m + 9), .int (nI (lz)), .ref (m + 10), .int (nI (ty)), .int (nI (h1_258)), .int (eI (e1_258)), .int ea, .int fa, .ref (m + 11), .int (nI ((cn + 1)))])) := j0
              have hi : F20 (m + 10) = some (.inr (1, 60, fun b9 => .int (nI (ip b9)))) := j1
              have hag : ∀ a9 : Nat, (a9 < m ∨ m + 1 ≤ a9) → (a9 < m + 11 ∨ m + 11 + 1 ≤ a9) → F20 a9 = F a9 := fun a9 q0 q1 => (hag9 a9 (by omega)).trans (hag a9 q0 q1)
              have hg_258 := hag9
              clear hag9
              have hq_258 : qB ty (h1_258, e1_258) ∧ v1_258 < 1000 := by have h9 := bh_B (s := ip) (c := 32) (m := 3) hq_244 (by omega); rw [pk_258] at h9; exact h9
              refine x_iast hC hcm (j := (3) * (cn) + 1) ⟨rfl, by omega, by omega⟩ d_MessageCoderModel_command_261 (g1 := fun b9 => nI (updN d2 ((3) * (cn) + 1) (v1_258) b9)) (x_updN _ _ _) ?_
              generalize ed3 : updN d2 ((3) * (cn) + 1) (v1_258) = d3
              generalize e22 : xup F20 (m + 11) (.inr (0, 183, fun b9 => .int (nI (d3 b9)))) = F22
              have hcm : F22 (m + 11) = some (.inr (0, 183, fun b9 => .int (nI (d3 b9)))) := by rw [← e22]; exact xup_eq
              have o0 : F22 (m) = some (.inl (10, [.int (nI (th)), .ref (m + 1), .int (nI (ch)), .int (nI (sv)), .int rs, .ref (m + 2), .ref (m + 3), .ref (m + 4), .ref (m + 5), .ref (m + 6), .int (nI (bm)), .ref (m + 7), .int (nI (dm)), .ref (m + 8), .ref (m + 9), .int (nI (lz)), .ref (m + 10), .int (nI (ty)), .int (nI (h1_258)), .int (eI (e1_258)), .int ea, .int fa, .ref (m + 11), .int (nI ((cn + 1)))])) := by rw [← e22]; exact (xup_ne (by omega)).trans o0
              have hi : F22 (m + 10) = some (.inr (1, 60, fun b9 => .int (nI (ip b9)))) := by rw [← e22]; exact (xup_ne (by omega)).trans hi
              have hag : ∀ a9 : Nat, (a9 < m ∨ m + 1 ≤ a9) → (a9 < m + 11 ∨ m + 11 + 1 ≤ a9) → F22 a9 = F a9 := fun a9 q0 q1 => by rw [← e22]; exact (xup_ne (by omega)).trans (hag a9 q0 q1)
              refine x_goto hC d_MessageCoderModel_command_262 (tgt := 323) (by decide) ?_
              refine hret _ _ _ _ _ _ d_MessageCoderModel_command_323 (by decide) (by decide) ?_
              exact ⟨_, _, d3, rfl, rfl, o0, hi, hcm, cmR_mk (J := 6) (by decide) (by decide) (by decide) hX (by rw [(tr_6 hX).1, pk_238, pk_244, pk_258]) (by rw [← ed3, updN_ne (by omega)]; exact w0) (fun q => by rw [(tr_6 hX).2 q, pk_238, pk_244, pk_258]; exact ⟨by rw [← ed3]; exact updN_at rfl, by rw [← ed3, updN_ne (by omega)]; exact w2⟩), fun q hq9 => by rw [← ed3, updN_ne (by omega)]; exact wo q hq9, hq_258.1, hag⟩
            · skip
              by_cases k_63_115 : (sgI ty ip h) = nI 115
              · skip
                refine x_top (v := nI 115) k_63_115 ?_
                refine x_tableIn hC d_MessageCoderModel_command_63 (by decide +kernel) (by decide +kernel) (off := 202) (by decide +kernel) (tgt := 265) (by decide) ?_
                have hX := (sg_eq hs (by decide)).mp k_63_115
                have hqa : qB ty (h + 1, 0) := ⟨hX.1, Nat.zero_le _⟩
                have w0 : d2 (3 * cn) = 115 := w0.trans ((if_pos hX.1).trans hX.2)
                refine x_aload_n hC d_MessageCoderModel_command_265 rfl rfl ?_
                refine x_bipush hC d_MessageCoderModel_command_266 (v := nI 101) (by decide) ?_
                refine x_bipush hC d_MessageCoderModel_command_268 (v := nI 110) (by decide) ?_
                refine x_bipush hC d_MessageCoderModel_command_270 (v := nI 100) (by decide) ?_
                refine x_callV hC kv_MessageCoderModel_251 (c_MessageCoderModel_letters (o0 := o0) (hi := hi) (hs := hs) (hty := hty) (hq := hqa) (h1c := by omega) (h2c := by omega) (h3c := by omega)) o0 rfl rfl (by decide) rfl rfl rfl (Nat.le_of_ble_eq_true rfl) (by decide) d_MessageCoderModel_command_272 (fun r9 F9 z9 hp9 => ?_)
                obtain ⟨h1_272, e1_272, rfl, h9c, j0, j1, pk_272, hag9⟩ := hp9
                rw [h9c]
                clear h9c z9
                generalize F9 = F23 at *
                have hcm : F23 (m + 11) = some (.inr (0, 183, fun b9 => .int (nI (d2 b9)))) := (hag9 _ (by omega)).trans hcm
                have o0 : F23 (m) = some (.inl (10, [.int (nI (th)), .ref (m + 1), .int (nI (ch)), .int (nI (sv)), .int rs, .ref (m + 2), .ref (m + 3), .ref (m + 4), .ref (m + 5), .ref (m + 6), .int (nI (bm)), .ref (m + 7), .int (nI (dm)), .ref (m + 8), .ref (m + 9), .int (nI (lz)), .ref (m + 10), .int (nI (ty)), .int (nI (h1_272)), .int (eI (e1_272)), .int ea, .int fa, .ref (m + 11), .int (nI ((cn + 1)))])) := j0
                have hi : F23 (m + 10) = some (.inr (1, 60, fun b9 => .int (nI (ip b9)))) := j1
                have hag : ∀ a9 : Nat, (a9 < m ∨ m + 1 ≤ a9) → (a9 < m + 11 ∨ m + 11 + 1 ≤ a9) → F23 a9 = F a9 := fun a9 q0 q1 => (hag9 a9 (by omega)).trans (hag a9 q0 q1)
                have hg_272 := hag9
                clear hag9
                have hq_272 : qB ty (h1_272, e1_272) := by rw [← pk_272]; exact nd_B (nd_B (nd_B hqa))
                refine x_goto hC d_MessageCoderModel_command_275 (tgt := 323) (by decide) ?_
                refine hret _ _ _ _ _ _ d_MessageCoderModel_command_323 (by decide) (by decide) ?_
                exact ⟨_, _, d2, rfl, rfl, o0, hi, hcm, cmR_mk (J := 7) (by decide) (by decide) (by decide) hX ((tr_7 hX).trans pk_272) w0 (fun q => (by have h9 : (pTry ty ip h 7).2.2 = (0, 0, 0) := fo_p (j := 7) (K := 4) (by decide) q; rw [h9]; exact ⟨w1, w2⟩)), wo, hq_272, hag⟩
              · skip
                by_cases k_63_102 : (sgI ty ip h) = nI 102
                · skip
                  refine x_top (v := nI 102) k_63_102 ?_
                  refine x_tableIn hC d_MessageCoderModel_command_63 (by decide +kernel) (by decide +kernel) (off := 215) (by decide +kernel) (tgt := 278) (by decide) ?_
                  have hX := (sg_eq hs (by decide)).mp k_63_102
                  have hqa : qB ty (h + 1, 0) := ⟨hX.1, Nat.zero_le _⟩
                  have w0 : d2 (3 * cn) = 102 := w0.trans ((if_pos hX.1).trans hX.2)
                  refine x_aload_n hC d_MessageCoderModel_command_278 rfl rfl ?_
                  refine x_bipush hC d_MessageCoderModel_command_279 (v := nI 108) (by decide) ?_
                  refine x_bipush hC d_MessageCoderModel_command_281 (v := nI 105) (by decide) ?_
                  refine x_bipush hC d_MessageCoderModel_command_283 (v := nI 112) (by decide) ?_
                  refine x_callV hC kv_MessageCoderModel_251 (c_MessageCoderModel_letters (o0 := o0) (hi := hi) (hs := hs) (hty := hty) (hq := hqa) (h1c := by omega) (h2c := by omega) (h3c := by omega)) o0 rfl rfl (by decide) rfl rfl rfl (Nat.le_of_ble_eq_true rfl) (by decide) d_MessageCoderModel_command_285 (fun r9 F9 z9 hp9 => ?_)
                  obtain ⟨h1_285, e1_285, rfl, h9c, j0, j1, pk_285, hag9⟩ := hp9
                  rw [h9c]
                  clear h9c z9
                  generalize F9 = F24 at *
                  have hcm : F24 (m + 11) = some (.inr (0, 183, fun b9 => .int (nI (d2 b9)))) := (hag9 _ (by omega)).trans hcm
                  have o0 : F24 (m) = some (.inl (10, [.int (nI (th)), .ref (m + 1), .int (nI (ch)), .int (nI (sv)), .int rs, .ref (m + 2), .ref (m + 3), .ref (m + 4), .ref (m + 5), .ref (m + 6), .int (nI (bm)), .ref (m + 7), .int (nI (dm)), .ref (m + 8), .ref (m + 9), .int (nI (lz)), .ref (m + 10), .int (nI (ty)), .int (nI (h1_285)), .int (eI (e1_285)), .int ea, .int fa, .ref (m + 11), .int (nI ((cn + 1)))])) := j0
                  have hi : F24 (m + 10) = some (.inr (1, 60, fun b9 => .int (nI (ip b9)))) := j1
                  have hag : ∀ a9 : Nat, (a9 < m ∨ m + 1 ≤ a9) → (a9 < m + 11 ∨ m + 11 + 1 ≤ a9) → F24 a9 = F a9 := fun a9 q0 q1 => (hag9 a9 (by omega)).trans (hag a9 q0 q1)
                  have hg_285 := hag9
                  clear hag9
                  have hq_285 : qB ty (h1_285, e1_285) := by rw [← pk_285]; exact nd_B (nd_B (nd_B hqa))
                  refine x_aload_n hC d_MessageCoderModel_command_288 rfl rfl ?_
                  refine x_getf hC kf_MessageCoderModel_48 o0 rfl d_MessageCoderModel_command_289 ?_
                  refine x_iload_n hC d_MessageCoderModel_command_292 rfl rfl ?_
                  refine x_iconst hC d_MessageCoderModel_command_293 (v := nI 1) (by decide) ?_
                  refine x_iadd hC d_MessageCoderModel_command_294 (v := (nI ((3) * (cn) + 1))) (x_addN (by omega)) ?_
                  refine x_aload_n hC d_MessageCoderModel_command_295 rfl rfl ?_
                  refine x_bipush hC d_MessageCoderModel_command_296 (v := nI 32) (by decide) ?_
                  refine x_iconst hC d_MessageCoderModel_command_298 (v := nI 3) (by decide) ?_
                  refine x_callV hC kv_MessageCoderModel_261 (c_MessageCoderModel_behind (o0 := o0) (hi := hi) (hs := hs) (hty := hty) (hq := hq_285) (hc := by omega) (hmm := by omega)) o0 rfl rfl (by decide) rfl rfl rfl (Nat.le_of_ble_eq_true rfl) (by decide) d_MessageCoderModel_command_299 (fun r9 F9 z9 hp9 => ?_)
                  obtain ⟨h1_299, e1_299, v1_299, rfl, h9c, j0, j1, pk_299, hag9⟩ := hp9
                  rw [h9c]
                  clear h9c z9
                  generalize F9 = F25 at *
                  have hcm : F25 (m + 11) = some (.inr (0, 183, fun b9 => .int (nI (d2 b9)))) := (hag9 _ (by omega)).trans hcm
                  have o0 : F25 (m) = some (.inl (10, [.int (nI (th)), .ref (m + 1), .int (nI (ch)), .int (nI (sv)), .int rs, .ref (m + 2), .ref (m + 3), .ref (m + 4), .ref (m + 5), .ref (m + 6), .int (nI (bm)), .ref (m + 7), .int (nI (dm)), .ref (m + 8), .ref (m + 9), .int (nI (lz)), .ref (m + 10), .int (nI (ty)), .int (nI (h1_299)), .int (eI (e1_299)), .int ea, .int fa, .ref (m + 11), .int (nI ((cn + 1)))])) := j0
                  have hi : F25 (m + 10) = some (.inr (1, 60, fun b9 => .int (nI (ip b9)))) := j1
                  have hag : ∀ a9 : Nat, (a9 < m ∨ m + 1 ≤ a9) → (a9 < m + 11 ∨ m + 11 + 1 ≤ a9) → F25 a9 = F a9 := fun a9 q0 q1 => (hag9 a9 (by omega)).trans (hag a9 q0 q1)
                  have hg_299 := hag9
                  clear hag9
                  have hq_299 : qB ty (h1_299, e1_299) ∧ v1_299 < 1000 := by have h9 := bh_B (s := ip) (c := 32) (m := 3) hq_285 (by omega); rw [pk_299] at h9; exact h9
                  refine x_iast hC hcm (j := (3) * (cn) + 1) ⟨rfl, by omega, by omega⟩ d_MessageCoderModel_command_302 (g1 := fun b9 => nI (updN d2 ((3) * (cn) + 1) (v1_299) b9)) (x_updN _ _ _) ?_
                  generalize ed3 : updN d2 ((3) * (cn) + 1) (v1_299) = d3
                  generalize e27 : xup F25 (m + 11) (.inr (0, 183, fun b9 => .int (nI (d3 b9)))) = F27
                  have hcm : F27 (m + 11) = some (.inr (0, 183, fun b9 => .int (nI (d3 b9)))) := by rw [← e27]; exact xup_eq
                  have o0 : F27 (m) = some (.inl (10, [.int (nI (th)), .ref (m + 1), .int (nI (ch)), .int (nI (sv)), .int rs, .ref (m + 2), .ref (m + 3), .ref (m + 4), .ref (m + 5), .ref (m + 6), .int (nI (bm)), .ref (m + 7), .int (nI (dm)), .ref (m + 8), .ref (m + 9), .int (nI (lz)), .ref (m + 10), .int (nI (ty)), .int (nI (h1_299)), .int (eI (e1_299)), .int ea, .int fa, .ref (m + 11), .int (nI ((cn + 1)))])) := by rw [← e27]; exact (xup_ne (by omega)).trans o0
                  have hi : F27 (m + 10) = some (.inr (1, 60, fun b9 => .int (nI (ip b9)))) := by rw [← e27]; exact (xup_ne (by omega)).trans hi
                  have hag : ∀ a9 : Nat, (a9 < m ∨ m + 1 ≤ a9) → (a9 < m + 11 ∨ m + 11 + 1 ≤ a9) → F27 a9 = F a9 := fun a9 q0 q1 => by rw [← e27]; exact (xup_ne (by omega)).trans (hag a9 q0 q1)
                  refine x_goto hC d_MessageCoderModel_command_303 (tgt := 323) (by decide) ?_
                  refine hret _ _ _ _ _ _ d_MessageCoderModel_command_323 (by decide) (by decide) ?_
                  exact ⟨_, _, d3, rfl, rfl, o0, hi, hcm, cmR_mk (J := 8) (by decide) (by decide) (by decide) hX (by rw [(tr_8 hX).1, pk_285, pk_299]) (by rw [← ed3, updN_ne (by omega)]; exact w0) (fun q => by rw [(tr_8 hX).2 q, pk_285, pk_299]; exact ⟨by rw [← ed3]; exact updN_at rfl, by rw [← ed3, updN_ne (by omega)]; exact w2⟩), fun q hq9 => by rw [← ed3, updN_ne (by omega)]; exact wo q hq9, hq_299.1, hag⟩
                · skip
                  by_cases k_63_114 : (sgI ty ip h) = nI 114
                  · skip
                    refine x_top (v := nI 114) k_63_114 ?_
                    refine x_tableIn hC d_MessageCoderModel_command_63 (by decide +kernel) (by decide +kernel) (off := 243) (by decide +kernel) (tgt := 306) (by decide) ?_
                    have hX := (sg_eq hs (by decide)).mp k_63_114
                    have hqa : qB ty (h + 1, 0) := ⟨hX.1, Nat.zero_le _⟩
                    have w0 : d2 (3 * cn) = 114 := w0.trans ((if_pos hX.1).trans hX.2)
                    refine x_aload_n hC d_MessageCoderModel_command_306 rfl rfl ?_
                    refine x_callV hC kv_MessageCoderModel_276 (c_MessageCoderModel_receiving (o0 := o0) (hi := hi) (hs := hs) (hty := hty) (hq := hqa)) o0 rfl rfl (by decide) rfl rfl rfl (Nat.le_of_ble_eq_true rfl) (by decide) d_MessageCoderModel_command_307 (fun r9 F9 z9 hp9 => ?_)
                    obtain ⟨h1_307, e1_307, rfl, h9c, j0, j1, pk_307, hag9⟩ := hp9
                    rw [h9c]
                    clear h9c z9
                    generalize F9 = F28 at *
                    have hcm : F28 (m + 11) = some (.inr (0, 183, fun b9 => .int (nI (d2 b9)))) := (hag9 _ (by omega)).trans hcm
                    have o0 : F28 (m) = some (.inl (10, [.int (nI (th)), .ref (m + 1), .int (nI (ch)), .int (nI (sv)), .int rs, .ref (m + 2), .ref (m + 3), .ref (m + 4), .ref (m + 5), .ref (m + 6), .int (nI (bm)), .ref (m + 7), .int (nI (dm)), .ref (m + 8), .ref (m + 9), .int (nI (lz)), .ref (m + 10), .int (nI (ty)), .int (nI (h1_307)), .int (eI (e1_307)), .int ea, .int fa, .ref (m + 11), .int (nI ((cn + 1)))])) := j0
                    have hi : F28 (m + 10) = some (.inr (1, 60, fun b9 => .int (nI (ip b9)))) := j1
                    have hag : ∀ a9 : Nat, (a9 < m ∨ m + 1 ≤ a9) → (a9 < m + 11 ∨ m + 11 + 1 ≤ a9) → F28 a9 = F a9 := fun a9 q0 q1 => (hag9 a9 (by omega)).trans (hag a9 q0 q1)
                    have hg_307 := hag9
                    clear hag9
                    refine x_goto hC d_MessageCoderModel_command_310 (tgt := 323) (by decide) ?_
                    refine hret _ _ _ _ _ _ d_MessageCoderModel_command_323 (by decide) (by decide) ?_
                    exact ⟨_, _, d2, rfl, rfl, o0, hi, hcm, cmR_mk (J := 9) (by decide) (by decide) (by decide) hX ((tr_9 hX).trans pk_307) w0 (fun q => (by have h9 : (pTry ty ip h 9).2.2 = (0, 0, 0) := fo_p (j := 9) (K := 7) (by decide) q; rw [h9]; exact ⟨w1, w2⟩)), wo, (by rw [← pk_307]; exact nd_B (nd_B (nd_B (nd_B (nd_B (nd_B hqa)))))), hag⟩
                  · skip
                    refine cmd_def hC d_MessageCoderModel_command_63 (tgt := 313) (by decide) hs (fun c hc9 hq9 => (by have h9 := (sg_eq hs (by omega)).mpr hq9; rcases hc9 with rfl | rfl | rfl | rfl | rfl | rfl | rfl | rfl | rfl <;> first | exact k_63_119 h9 | exact k_63_100 h9 | exact k_63_99 h9 | exact k_63_112 h9 | exact k_63_104 h9 | exact k_63_108 h9 | exact k_63_115 h9 | exact k_63_102 h9 | exact k_63_114 h9)) ?_
                    refine x_aload_n hC d_MessageCoderModel_command_313 rfl rfl ?_
                    refine x_iload_n hC d_MessageCoderModel_command_314 rfl rfl ?_
                    refine x_putf hC kf_MessageCoderModel_239 o0 (Nat.le_of_ble_eq_true rfl) rfl rfl d_MessageCoderModel_command_315 (fs1 := [.int (nI (th)), .ref (m + 1), .int (nI (ch)), .int (nI (sv)), .int rs, .ref (m + 2), .ref (m + 3), .ref (m + 4), .ref (m + 5), .ref (m + 6), .int (nI (bm)), .ref (m + 7), .int (nI (dm)), .ref (m + 8), .ref (m + 9), .int (nI (lz)), .ref (m + 10), .int (nI (ty)), .int (nI (h)), .int (eI (0)), .int ea, .int fa, .ref (m + 11), .int (nI (cn + 1))]) rfl ?_
                    generalize e29 : xup F8 (m) (.inl (10, [.int (nI (th)), .ref (m + 1), .int (nI (ch)), .int (nI (sv)), .int rs, .ref (m + 2), .ref (m + 3), .ref (m + 4), .ref (m + 5), .ref (m + 6), .int (nI (bm)), .ref (m + 7), .int (nI (dm)), .ref (m + 8), .ref (m + 9), .int (nI (lz)), .ref (m + 10), .int (nI (ty)), .int (nI (h)), .int (eI (0)), .int ea, .int fa, .ref (m + 11), .int (nI (cn + 1))])) = F29
                    have o0 : F29 (m) = some (.inl (10, [.int (nI (th)), .ref (m + 1), .int (nI (ch)), .int (nI (sv)), .int rs, .ref (m + 2), .ref (m + 3), .ref (m + 4), .ref (m + 5), .ref (m + 6), .int (nI (bm)), .ref (m + 7), .int (nI (dm)), .ref (m + 8), .ref (m + 9), .int (nI (lz)), .ref (m + 10), .int (nI (ty)), .int (nI (h)), .int (eI (0)), .int ea, .int fa, .ref (m + 11), .int (nI (cn + 1))])) := by rw [← e29]; exact xup_eq
                    have hi : F29 (m + 10) = some (.inr (1, 60, fun b9 => .int (nI (ip b9)))) := by rw [← e29]; exact (xup_ne (by omega)).trans hi
                    have hcm : F29 (m + 11) = some (.inr (0, 183, fun b9 => .int (nI (d2 b9)))) := by rw [← e29]; exact (xup_ne (by omega)).trans hcm
                    have hag : ∀ a9 : Nat, (a9 < m ∨ m + 1 ≤ a9) → (a9 < m + 11 ∨ m + 11 + 1 ≤ a9) → F29 a9 = F a9 := fun a9 q0 q1 => by rw [← e29]; exact (xup_ne (by omega)).trans (hag a9 q0 q1)
                    refine x_aload_n hC d_MessageCoderModel_command_318 rfl rfl ?_
                    refine x_iload_n hC d_MessageCoderModel_command_319 rfl rfl ?_
                    refine x_putf hC kf_MessageCoderModel_242 o0 (Nat.le_of_ble_eq_true rfl) rfl rfl d_MessageCoderModel_command_320 (fs1 := [.int (nI (th)), .ref (m + 1), .int (nI (ch)), .int (nI (sv)), .int rs, .ref (m + 2), .ref (m + 3), .ref (m + 4), .ref (m + 5), .ref (m + 6), .int (nI (bm)), .ref (m + 7), .int (nI (dm)), .ref (m + 8), .ref (m + 9), .int (nI (lz)), .ref (m + 10), .int (nI (ty)), .int (nI (h)), .int (nI (h)), .int ea, .int fa, .ref (m + 11), .int (nI (cn + 1))]) rfl ?_
                    generalize e30 : xup F29 (m) (.inl (10, [.int (nI (th)), .ref (m + 1), .int (nI (ch)), .int (nI (sv)), .int rs, .ref (m + 2), .ref (m + 3), .ref (m + 4), .ref (m + 5), .ref (m + 6), .int (nI (bm)), .ref (m + 7), .int (nI (dm)), .ref (m + 8), .ref (m + 9), .int (nI (lz)), .ref (m + 10), .int (nI (ty)), .int (nI (h)), .int (nI (h)), .int ea, .int fa, .ref (m + 11), .int (nI (cn + 1))])) = F30
                    have o0 : F30 (m) = some (.inl (10, [.int (nI (th)), .ref (m + 1), .int (nI (ch)), .int (nI (sv)), .int rs, .ref (m + 2), .ref (m + 3), .ref (m + 4), .ref (m + 5), .ref (m + 6), .int (nI (bm)), .ref (m + 7), .int (nI (dm)), .ref (m + 8), .ref (m + 9), .int (nI (lz)), .ref (m + 10), .int (nI (ty)), .int (nI (h)), .int (nI (h)), .int ea, .int fa, .ref (m + 11), .int (nI (cn + 1))])) := by rw [← e30]; exact xup_eq
                    have hi : F30 (m + 10) = some (.inr (1, 60, fun b9 => .int (nI (ip b9)))) := by rw [← e30]; exact (xup_ne (by omega)).trans hi
                    have hcm : F30 (m + 11) = some (.inr (0, 183, fun b9 => .int (nI (d2 b9)))) := by rw [← e30]; exact (xup_ne (by omega)).trans hcm
                    have hag : ∀ a9 : Nat, (a9 < m ∨ m + 1 ≤ a9) → (a9 < m + 11 ∨ m + 11 + 1 ≤ a9) → F30 a9 = F a9 := fun a9 q0 q1 => by rw [← e30]; exact (xup_ne (by omega)).trans (hag a9 q0 q1)
                    refine hret _ _ _ _ _ _ d_MessageCoderModel_command_323 (by decide) (by decide) ?_
                    have hn := cmd_none (n := ty) (s := ip) (a := h) (fun j hj q => (by have h9 := (sg_eq hs (c := frm j 0) (by have := frm_v j hj; omega)).mpr q; rcases frm_v j hj with e | e | e | e | e | e | e | e | e <;> (rw [e] at h9; first | exact k_63_119 h9 | exact k_63_100 h9 | exact k_63_99 h9 | exact k_63_112 h9 | exact k_63_104 h9 | exact k_63_108 h9 | exact k_63_115 h9 | exact k_63_102 h9 | exact k_63_114 h9)))
                    exact ⟨h, h + 1, d2, rfl, rfl, o0, hi, hcm, ⟨⟨0, by omega, fun e => absurd e (Nat.succ_ne_zero h)⟩, fun _ => ⟨hn.1, by rw [hn.2]⟩⟩, wo, ⟨hh, by show h + 1 ≤ ty + 1; omega⟩, hag⟩

