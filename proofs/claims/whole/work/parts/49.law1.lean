/-! ===== THE LAW: a call of each ===== -/
def LInv (S K : St) (tb : Nat → Int32) (tl : Nat) (si im : Nat → Int32) (kp : Int32) : Prop := Gd S ∧ Gd K ∧ tpR tb ∧ tl ≤ 120 ∧ (∀ k, inR (si k) 0 40) ∧ (¬ kp = 0 → im = rowOf K)
def Lp (X : VX) (i : Nat) : Prop := ∀ (S : St) (u0 : Int32) (T : St) (u1 : Int32) (K : St) (u2 : Int32) (tb : Nat → Int32) (tl : Nat) (ni : Int32) (ns : Int32) (ne : Int32) (nk : Int32) (nv : Int32) (wi : Nat → Int32) (si : Nat → Int32) (nu : Nat → Int64) (fn : Nat → Int32) (kp : Int32) (of : Int32) (tr : Nat → Int32) (b1 : Nat → Int32) (so : Int32) (be : Int32) (te : Int32) (wo : Int64) (va : Int32) (gd : Int32) (le : Nat → Int64) (im : Nat → Int32) (bf : Nat → Int32), LInv S K tb tl si im kp → V X 18 [some (.ref 3000), some (.ref 0), some (.ref 39), some (.int (nI i))] [] (xW S u0 T u1 K u2 tb tl ni ns ne nk nv wi si nu fn kp ++ mX (rowOf S) fn of tr b1 tb tl so be te wo va gd wi si nu le im bf kp)
set_option maxRecDepth 20000 in
set_option maxHeartbeats 2000000 in
theorem lc_0 {S : St} {u0 : Int32} {T : St} {u1 : Int32} {K : St} {u2 : Int32} {tb : Nat → Int32} {tl : Nat} {ni : Int32} {ns : Int32} {ne : Int32} {nk : Int32} {nv : Int32} {wi : Nat → Int32} {si : Nat → Int32} {nu : Nat → Int64} {fn : Nat → Int32} {kp : Int32} {of : Int32} {tr : Nat → Int32} {b1 : Nat → Int32} {so : Int32} {be : Int32} {te : Int32} {wo : Int64} {va : Int32} {gd : Int32} {le : Nat → Int64} {im : Nat → Int32} {bf : Nat → Int32} {X : VX} {L i : Nat} {xs : Nat → Int32} (g : VG X code RL 13) (hp : LawP L xs X) (hL : L ≤ 3072) (hi : i + 6 ≤ L) (h : LInv S K tb tl si im kp) (ih : Lp X (i + 6)) : V X 192 [some (.ref 3000), some (.ref 0), some (.ref 39), some (.int (nI i))] [] (xW S u0 T u1 K u2 tb tl ni ns ne nk nv wi si nu fn kp ++ mX (rowOf S) fn of tr b1 tb tl so be te wo va gd wi si nu le im bf kp) := by
  refine v_aload_n (pc := 192) 1 g dL_law_192 rfl rfl ?_
  refine v_aload_n (pc := 193) 0 g dL_law_193 rfl rfl ?_
  refine v_iload_n (pc := 194) 3 g dL_law_194 rfl rfl ?_
  refine v_iconst (pc := 195) (v := 1) g dL_law_195 (by decide) ?_
  refine v_iadd (pc := 196) g dL_law_196 ?_
  refine v_sld (pc := 197) (i + 1) g hp dL_law_197 (nI_add i 1) (by omega) hL ?_
  refine v_aload_n (pc := 198) 0 g dL_law_198 rfl rfl ?_
  refine v_iload_n (pc := 199) 3 g dL_law_199 rfl rfl ?_
  refine v_iconst (pc := 200) (v := 2) g dL_law_200 (by decide) ?_
  refine v_iadd (pc := 201) g dL_law_201 ?_
  refine v_sld (pc := 202) (i + 2) g hp dL_law_202 (nI_add i 2) (by omega) hL ?_
  refine v_aload_n (pc := 203) 0 g dL_law_203 rfl rfl ?_
  refine v_iload_n (pc := 204) 3 g dL_law_204 rfl rfl ?_
  refine v_iconst (pc := 205) (v := 3) g dL_law_205 (by decide) ?_
  refine v_iadd (pc := 206) g dL_law_206 ?_
  refine v_sld (pc := 207) (i + 3) g hp dL_law_207 (nI_add i 3) (by omega) hL ?_
  refine v_cV (pc := 208) g dL_law_208 lk_L_13 (Nat.le_of_ble_eq_true rfl) (Runs.left (c_X4_house _ _ _ h.1.1) _ rfl (xW_cl _ _ _ _ _ _ _ _ _ _ _ _ _ _ _ _ _ _) rfl) rfl rfl rfl rfl (Nat.le_of_ble_eq_true rfl) (fun r1 w1 hq => ?_)
  obtain ⟨_, _, ⟨rfl, rfl⟩, -, rfl, rfl⟩ := hq
  refine v_stE [.int (r_0 S (xs (i + 1)) (xs (i + 2)) (xs (i + 3)))] rfl ?_
  refine v_w (xW (s_0 S (xs (i + 1)) (xs (i + 2)) (xs (i + 3))) u0 T u1 K u2 tb tl ni ns ne nk nv wi si nu (fdI (C0 (xs (i + 1)) (xs (i + 2)) (xs (i + 3))) fn 0) kp ++ mX (rowOf S) fn of tr b1 tb tl so be te wo va gd wi si nu le im bf kp) (by rw [xW_cl]) ?_
  refine v_aload_n (pc := 211) 2 g dL_law_211 rfl rfl ?_
  refine v_aload_n (pc := 212) 0 g dL_law_212 rfl rfl ?_
  refine v_iload_n (pc := 213) 3 g dL_law_213 rfl rfl ?_
  refine v_iconst (pc := 214) (v := 1) g dL_law_214 (by decide) ?_
  refine v_iadd (pc := 215) g dL_law_215 ?_
  refine v_sld (pc := 216) (i + 1) g hp dL_law_216 (nI_add i 1) (by omega) hL ?_
  refine v_aload_n (pc := 217) 0 g dL_law_217 rfl rfl ?_
  refine v_iload_n (pc := 218) 3 g dL_law_218 rfl rfl ?_
  refine v_iconst (pc := 219) (v := 2) g dL_law_219 (by decide) ?_
  refine v_iadd (pc := 220) g dL_law_220 ?_
  refine v_sld (pc := 221) (i + 2) g hp dL_law_221 (nI_add i 2) (by omega) hL ?_
  refine v_aload_n (pc := 222) 0 g dL_law_222 rfl rfl ?_
  refine v_iload_n (pc := 223) 3 g dL_law_223 rfl rfl ?_
  refine v_iconst (pc := 224) (v := 3) g dL_law_224 (by decide) ?_
  refine v_iadd (pc := 225) g dL_law_225 ?_
  refine v_sld (pc := 226) (i + 3) g hp dL_law_226 (nI_add i 3) (by omega) hL ?_
  refine v_cV (pc := 227) g dL_law_227 lk_L_17 (Nat.le_of_ble_eq_true rfl) (Runs.right (c_X5_house S _ _ _ h.1.1) _ rfl rfl (mW_cl _ _ _ _ _ _ _ _ _ _ _ _ _ _ _ _ _ _ _ _) rfl) rfl rfl rfl rfl (Nat.le_of_ble_eq_true rfl) (fun r1 w1 hq => ?_)
  obtain ⟨_, _, ⟨rfl, rfl⟩, -, rfl, rfl⟩ := hq
  refine v_stE [.int (r_0 S (xs (i + 1)) (xs (i + 2)) (xs (i + 3))), .int (r_0 S (xs (i + 1)) (xs (i + 2)) (xs (i + 3)))] rfl ?_
  refine v_w (xW (s_0 S (xs (i + 1)) (xs (i + 2)) (xs (i + 3))) u0 T u1 K u2 tb tl ni ns ne nk nv wi si nu (fdI (C0 (xs (i + 1)) (xs (i + 2)) (xs (i + 3))) fn 0) kp ++ mX (rowOf (s_0 S (xs (i + 1)) (xs (i + 2)) (xs (i + 3)))) (fdI (C0 (xs (i + 1)) (xs (i + 2)) (xs (i + 3))) fn 0) of tr b1 tb tl so be te wo va gd wi si nu le im bf kp) (by rw [mW_cl]) ?_
  refine v_icmp_eq (pc := 230) 1291 g dL_law_230 rfl (fun _ => ?_) (fun c => absurd rfl c)
  refine v_iinc (pc := 1291) _ _ g dL_law_1291 rfl rfl hp.nL.symm rfl ?_
  refine v_loE [some (.ref 3000), some (.ref 0), some (.ref 39), some (.int (nI (i + 6)))] (by show [_, _, _, some (Value.int (nI i + nI 6))] = _; rw [nI_add]; rfl) ?_
  refine v_goto (pc := 1294) 18 g dL_law_1294 rfl ?_
  exact ih _ _ _ _ _ _ _ _ _ _ _ _ _ _ _ _ _ _ _ _ _ _ _ _ _ _ _ _ _ _ (⟨h.1.s_0 _ _ _, h.2⟩)
set_option maxRecDepth 20000 in
set_option maxHeartbeats 2000000 in
theorem lc_1 {S : St} {u0 : Int32} {T : St} {u1 : Int32} {K : St} {u2 : Int32} {tb : Nat → Int32} {tl : Nat} {ni : Int32} {ns : Int32} {ne : Int32} {nk : Int32} {nv : Int32} {wi : Nat → Int32} {si : Nat → Int32} {nu : Nat → Int64} {fn : Nat → Int32} {kp : Int32} {of : Int32} {tr : Nat → Int32} {b1 : Nat → Int32} {so : Int32} {be : Int32} {te : Int32} {wo : Int64} {va : Int32} {gd : Int32} {le : Nat → Int64} {im : Nat → Int32} {bf : Nat → Int32} {X : VX} {L i : Nat} {xs : Nat → Int32} (g : VG X code RL 13) (hp : LawP L xs X) (hL : L ≤ 3072) (hi : i + 6 ≤ L) (h : LInv S K tb tl si im kp) (ih : Lp X (i + 6)) : V X 235 [some (.ref 3000), some (.ref 0), some (.ref 39), some (.int (nI i))] [] (xW S u0 T u1 K u2 tb tl ni ns ne nk nv wi si nu fn kp ++ mX (rowOf S) fn of tr b1 tb tl so be te wo va gd wi si nu le im bf kp) := by
  refine v_aload_n (pc := 235) 1 g dL_law_235 rfl rfl ?_
  refine v_aload_n (pc := 236) 0 g dL_law_236 rfl rfl ?_
  refine v_iload_n (pc := 237) 3 g dL_law_237 rfl rfl ?_
  refine v_iconst (pc := 238) (v := 1) g dL_law_238 (by decide) ?_
  refine v_iadd (pc := 239) g dL_law_239 ?_
  refine v_sld (pc := 240) (i + 1) g hp dL_law_240 (nI_add i 1) (by omega) hL ?_
  refine v_aload_n (pc := 241) 0 g dL_law_241 rfl rfl ?_
  refine v_iload_n (pc := 242) 3 g dL_law_242 rfl rfl ?_
  refine v_iconst (pc := 243) (v := 2) g dL_law_243 (by decide) ?_
  refine v_iadd (pc := 244) g dL_law_244 ?_
  refine v_sld (pc := 245) (i + 2) g hp dL_law_245 (nI_add i 2) (by omega) hL ?_
  refine v_cV (pc := 246) g dL_law_246 lk_L_18 (Nat.le_of_ble_eq_true rfl) (Runs.left (c_X4_houseOf _ _ h.1.1) _ rfl (xW_cl _ _ _ _ _ _ _ _ _ _ _ _ _ _ _ _ _ _) rfl) rfl rfl rfl rfl (Nat.le_of_ble_eq_true rfl) (fun r1 w1 hq => ?_)
  obtain ⟨_, _, ⟨rfl, rfl⟩, -, rfl, rfl⟩ := hq
  refine v_stE [.int (r_1 S (xs (i + 1)) (xs (i + 2)))] rfl ?_
  refine v_w (xW S u0 T u1 K u2 tb tl ni ns ne nk nv wi si nu (fdI (C1 (xs (i + 1)) (xs (i + 2))) fn 0) kp ++ mX (rowOf S) fn of tr b1 tb tl so be te wo va gd wi si nu le im bf kp) (by rw [xW_cl]) ?_
  refine v_aload_n (pc := 249) 2 g dL_law_249 rfl rfl ?_
  refine v_aload_n (pc := 250) 0 g dL_law_250 rfl rfl ?_
  refine v_iload_n (pc := 251) 3 g dL_law_251 rfl rfl ?_
  refine v_iconst (pc := 252) (v := 1) g dL_law_252 (by decide) ?_
  refine v_iadd (pc := 253) g dL_law_253 ?_
  refine v_sld (pc := 254) (i + 1) g hp dL_law_254 (nI_add i 1) (by omega) hL ?_
  refine v_aload_n (pc := 255) 0 g dL_law_255 rfl rfl ?_
  refine v_iload_n (pc := 256) 3 g dL_law_256 rfl rfl ?_
  refine v_iconst (pc := 257) (v := 2) g dL_law_257 (by decide) ?_
  refine v_iadd (pc := 258) g dL_law_258 ?_
  refine v_sld (pc := 259) (i + 2) g hp dL_law_259 (nI_add i 2) (by omega) hL ?_
  refine v_cV (pc := 260) g dL_law_260 lk_L_22 (Nat.le_of_ble_eq_true rfl) (Runs.right (c_X5_houseOf S _ _ h.1.1) _ rfl rfl (mW_cl _ _ _ _ _ _ _ _ _ _ _ _ _ _ _ _ _ _ _ _) rfl) rfl rfl rfl rfl (Nat.le_of_ble_eq_true rfl) (fun r1 w1 hq => ?_)
  obtain ⟨_, _, ⟨rfl, rfl⟩, -, rfl, rfl⟩ := hq
  refine v_stE [.int (r_1 S (xs (i + 1)) (xs (i + 2))), .int (r_1 S (xs (i + 1)) (xs (i + 2)))] rfl ?_
  refine v_w (xW S u0 T u1 K u2 tb tl ni ns ne nk nv wi si nu (fdI (C1 (xs (i + 1)) (xs (i + 2))) fn 0) kp ++ mX (rowOf S) (fdI (C1 (xs (i + 1)) (xs (i + 2))) fn 0) of tr b1 tb tl so be te wo va gd wi si nu le im bf kp) (by rw [mW_cl]) ?_
  refine v_icmp_eq (pc := 263) 1291 g dL_law_263 rfl (fun _ => ?_) (fun c => absurd rfl c)
  refine v_iinc (pc := 1291) _ _ g dL_law_1291 rfl rfl hp.nL.symm rfl ?_
  refine v_loE [some (.ref 3000), some (.ref 0), some (.ref 39), some (.int (nI (i + 6)))] (by show [_, _, _, some (Value.int (nI i + nI 6))] = _; rw [nI_add]; rfl) ?_
  refine v_goto (pc := 1294) 18 g dL_law_1294 rfl ?_
  exact ih _ _ _ _ _ _ _ _ _ _ _ _ _ _ _ _ _ _ _ _ _ _ _ _ _ _ _ _ _ _ (h)
set_option maxRecDepth 20000 in
set_option maxHeartbeats 2000000 in
theorem lc_2 {S : St} {u0 : Int32} {T : St} {u1 : Int32} {K : St} {u2 : Int32} {tb : Nat → Int32} {tl : Nat} {ni : Int32} {ns : Int32} {ne : Int32} {nk : Int32} {nv : Int32} {wi : Nat → Int32} {si : Nat → Int32} {nu : Nat → Int64} {fn : Nat → Int32} {kp : Int32} {of : Int32} {tr : Nat → Int32} {b1 : Nat → Int32} {so : Int32} {be : Int32} {te : Int32} {wo : Int64} {va : Int32} {gd : Int32} {le : Nat → Int64} {im : Nat → Int32} {bf : Nat → Int32} {X : VX} {L i : Nat} {xs : Nat → Int32} (g : VG X code RL 13) (hp : LawP L xs X) (hL : L ≤ 3072) (hi : i + 6 ≤ L) (h : LInv S K tb tl si im kp) (ih : Lp X (i + 6)) : V X 268 [some (.ref 3000), some (.ref 0), some (.ref 39), some (.int (nI i))] [] (xW S u0 T u1 K u2 tb tl ni ns ne nk nv wi si nu fn kp ++ mX (rowOf S) fn of tr b1 tb tl so be te wo va gd wi si nu le im bf kp) := by
  refine v_aload_n (pc := 268) 1 g dL_law_268 rfl rfl ?_
  refine v_aload_n (pc := 269) 0 g dL_law_269 rfl rfl ?_
  refine v_iload_n (pc := 270) 3 g dL_law_270 rfl rfl ?_
  refine v_iconst (pc := 271) (v := 1) g dL_law_271 (by decide) ?_
  refine v_iadd (pc := 272) g dL_law_272 ?_
  refine v_sld (pc := 273) (i + 1) g hp dL_law_273 (nI_add i 1) (by omega) hL ?_
  refine v_cV (pc := 274) g dL_law_274 lk_L_23 (Nat.le_of_ble_eq_true rfl) (Runs.left (c_X4_dry _) _ rfl (xW_cl _ _ _ _ _ _ _ _ _ _ _ _ _ _ _ _ _ _) rfl) rfl rfl rfl rfl (Nat.le_of_ble_eq_true rfl) (fun r1 w1 hq => ?_)
  obtain ⟨_, _, ⟨rfl, rfl⟩, -, rfl, rfl⟩ := hq
  refine v_stE [.int (r_2 S (xs (i + 1)))] rfl ?_
  refine v_w (xW (s_2 S (xs (i + 1))) u0 T u1 K u2 tb tl ni ns ne nk nv wi si nu (fdI (inR (xs (i + 1)) 0 9) fn 0) kp ++ mX (rowOf S) fn of tr b1 tb tl so be te wo va gd wi si nu le im bf kp) (by rw [xW_cl]) ?_
  refine v_aload_n (pc := 277) 2 g dL_law_277 rfl rfl ?_
  refine v_aload_n (pc := 278) 0 g dL_law_278 rfl rfl ?_
  refine v_iload_n (pc := 279) 3 g dL_law_279 rfl rfl ?_
  refine v_iconst (pc := 280) (v := 1) g dL_law_280 (by decide) ?_
  refine v_iadd (pc := 281) g dL_law_281 ?_
  refine v_sld (pc := 282) (i + 1) g hp dL_law_282 (nI_add i 1) (by omega) hL ?_
  refine v_cV (pc := 283) g dL_law_283 lk_L_27 (Nat.le_of_ble_eq_true rfl) (Runs.right (c_X5_dry S _) _ rfl rfl (mW_cl _ _ _ _ _ _ _ _ _ _ _ _ _ _ _ _ _ _ _ _) rfl) rfl rfl rfl rfl (Nat.le_of_ble_eq_true rfl) (fun r1 w1 hq => ?_)
  obtain ⟨_, _, ⟨rfl, rfl⟩, -, rfl, rfl⟩ := hq
  refine v_stE [.int (r_2 S (xs (i + 1))), .int (r_2 S (xs (i + 1)))] rfl ?_
  refine v_w (xW (s_2 S (xs (i + 1))) u0 T u1 K u2 tb tl ni ns ne nk nv wi si nu (fdI (inR (xs (i + 1)) 0 9) fn 0) kp ++ mX (rowOf (s_2 S (xs (i + 1)))) (fdI (inR (xs (i + 1)) 0 9) fn 0) of tr b1 tb tl so be te wo va gd wi si nu le im bf kp) (by rw [mW_cl]) ?_
  refine v_icmp_eq (pc := 286) 1291 g dL_law_286 rfl (fun _ => ?_) (fun c => absurd rfl c)
  refine v_iinc (pc := 1291) _ _ g dL_law_1291 rfl rfl hp.nL.symm rfl ?_
  refine v_loE [some (.ref 3000), some (.ref 0), some (.ref 39), some (.int (nI (i + 6)))] (by show [_, _, _, some (Value.int (nI i + nI 6))] = _; rw [nI_add]; rfl) ?_
  refine v_goto (pc := 1294) 18 g dL_law_1294 rfl ?_
  exact ih _ _ _ _ _ _ _ _ _ _ _ _ _ _ _ _ _ _ _ _ _ _ _ _ _ _ _ _ _ _ (⟨h.1.s_2 _, h.2⟩)
set_option maxRecDepth 20000 in
set_option maxHeartbeats 2000000 in
theorem lc_3 {S : St} {u0 : Int32} {T : St} {u1 : Int32} {K : St} {u2 : Int32} {tb : Nat → Int32} {tl : Nat} {ni : Int32} {ns : Int32} {ne : Int32} {nk : Int32} {nv : Int32} {wi : Nat → Int32} {si : Nat → Int32} {nu : Nat → Int64} {fn : Nat → Int32} {kp : Int32} {of : Int32} {tr : Nat → Int32} {b1 : Nat → Int32} {so : Int32} {be : Int32} {te : Int32} {wo : Int64} {va : Int32} {gd : Int32} {le : Nat → Int64} {im : Nat → Int32} {bf : Nat → Int32} {X : VX} {L i : Nat} {xs : Nat → Int32} (g : VG X code RL 13) (hp : LawP L xs X) (hL : L ≤ 3072) (hi : i + 6 ≤ L) (h : LInv S K tb tl si im kp) (ih : Lp X (i + 6)) : V X 291 [some (.ref 3000), some (.ref 0), some (.ref 39), some (.int (nI i))] [] (xW S u0 T u1 K u2 tb tl ni ns ne nk nv wi si nu fn kp ++ mX (rowOf S) fn of tr b1 tb tl so be te wo va gd wi si nu le im bf kp) := by
  refine v_aload_n (pc := 291) 1 g dL_law_291 rfl rfl ?_
  refine v_aload_n (pc := 292) 0 g dL_law_292 rfl rfl ?_
  refine v_iload_n (pc := 293) 3 g dL_law_293 rfl rfl ?_
  refine v_iconst (pc := 294) (v := 1) g dL_law_294 (by decide) ?_
  refine v_iadd (pc := 295) g dL_law_295 ?_
  refine v_sld (pc := 296) (i + 1) g hp dL_law_296 (nI_add i 1) (by omega) hL ?_
  refine v_cV (pc := 297) g dL_law_297 lk_L_28 (Nat.le_of_ble_eq_true rfl) (Runs.left (c_X4_now _ h.1.1) _ rfl (xW_cl _ _ _ _ _ _ _ _ _ _ _ _ _ _ _ _ _ _) rfl) rfl rfl rfl rfl (Nat.le_of_ble_eq_true rfl) (fun r1 w1 hq => ?_)
  obtain ⟨_, _, ⟨rfl, rfl⟩, -, rfl, rfl⟩ := hq
  refine v_stE [.int (r_3 S (xs (i + 1)))] rfl ?_
  refine v_w (xW S u0 T u1 K u2 tb tl ni ns ne nk nv wi si nu (fdI (inR (xs (i + 1)) 0 6) fn 0) kp ++ mX (rowOf S) fn of tr b1 tb tl so be te wo va gd wi si nu le im bf kp) (by rw [xW_cl]) ?_
  refine v_aload_n (pc := 300) 2 g dL_law_300 rfl rfl ?_
  refine v_aload_n (pc := 301) 0 g dL_law_301 rfl rfl ?_
  refine v_iload_n (pc := 302) 3 g dL_law_302 rfl rfl ?_
  refine v_iconst (pc := 303) (v := 1) g dL_law_303 (by decide) ?_
  refine v_iadd (pc := 304) g dL_law_304 ?_
  refine v_sld (pc := 305) (i + 1) g hp dL_law_305 (nI_add i 1) (by omega) hL ?_
  refine v_cV (pc := 306) g dL_law_306 lk_L_31 (Nat.le_of_ble_eq_true rfl) (Runs.right (c_X5_now S _ h.1.1) _ rfl rfl (mW_cl _ _ _ _ _ _ _ _ _ _ _ _ _ _ _ _ _ _ _ _) rfl) rfl rfl rfl rfl (Nat.le_of_ble_eq_true rfl) (fun r1 w1 hq => ?_)
  obtain ⟨_, _, ⟨rfl, rfl⟩, -, rfl, rfl⟩ := hq
  refine v_stE [.int (r_3 S (xs (i + 1))), .int (r_3 S (xs (i + 1)))] rfl ?_
  refine v_w (xW S u0 T u1 K u2 tb tl ni ns ne nk nv wi si nu (fdI (inR (xs (i + 1)) 0 6) fn 0) kp ++ mX (rowOf S) (fdI (inR (xs (i + 1)) 0 6) fn 0) of tr b1 tb tl so be te wo va gd wi si nu le im bf kp) (by rw [mW_cl]) ?_
  refine v_icmp_eq (pc := 309) 1291 g dL_law_309 rfl (fun _ => ?_) (fun c => absurd rfl c)
  refine v_iinc (pc := 1291) _ _ g dL_law_1291 rfl rfl hp.nL.symm rfl ?_
  refine v_loE [some (.ref 3000), some (.ref 0), some (.ref 39), some (.int (nI (i + 6)))] (by show [_, _, _, some (Value.int (nI i + nI 6))] = _; rw [nI_add]; rfl) ?_
  refine v_goto (pc := 1294) 18 g dL_law_1294 rfl ?_
  exact ih _ _ _ _ _ _ _ _ _ _ _ _ _ _ _ _ _ _ _ _ _ _ _ _ _ _ _ _ _ _ (h)
set_option maxRecDepth 20000 in
set_option maxHeartbeats 2000000 in
theorem lc_4 {S : St} {u0 : Int32} {T : St} {u1 : Int32} {K : St} {u2 : Int32} {tb : Nat → Int32} {tl : Nat} {ni : Int32} {ns : Int32} {ne : Int32} {nk : Int32} {nv : Int32} {wi : Nat → Int32} {si : Nat → Int32} {nu : Nat → Int64} {fn : Nat → Int32} {kp : Int32} {of : Int32} {tr : Nat → Int32} {b1 : Nat → Int32} {so : Int32} {be : Int32} {te : Int32} {wo : Int64} {va : Int32} {gd : Int32} {le : Nat → Int64} {im : Nat → Int32} {bf : Nat → Int32} {X : VX} {L i : Nat} {xs : Nat → Int32} (g : VG X code RL 13) (hp : LawP L xs X) (hL : L ≤ 3072) (hi : i + 6 ≤ L) (h : LInv S K tb tl si im kp) (ih : Lp X (i + 6)) : V X 314 [some (.ref 3000), some (.ref 0), some (.ref 39), some (.int (nI i))] [] (xW S u0 T u1 K u2 tb tl ni ns ne nk nv wi si nu fn kp ++ mX (rowOf S) fn of tr b1 tb tl so be te wo va gd wi si nu le im bf kp) := by
  refine v_aload_n (pc := 314) 1 g dL_law_314 rfl rfl ?_
  refine v_aload_n (pc := 315) 0 g dL_law_315 rfl rfl ?_
  refine v_iload_n (pc := 316) 3 g dL_law_316 rfl rfl ?_
  refine v_iconst (pc := 317) (v := 1) g dL_law_317 (by decide) ?_
  refine v_iadd (pc := 318) g dL_law_318 ?_
  refine v_sld (pc := 319) (i + 1) g hp dL_law_319 (nI_add i 1) (by omega) hL ?_
  refine v_aload_n (pc := 320) 0 g dL_law_320 rfl rfl ?_
  refine v_iload_n (pc := 321) 3 g dL_law_321 rfl rfl ?_
  refine v_iconst (pc := 322) (v := 2) g dL_law_322 (by decide) ?_
  refine v_iadd (pc := 323) g dL_law_323 ?_
  refine v_sld (pc := 324) (i + 2) g hp dL_law_324 (nI_add i 2) (by omega) hL ?_
  refine v_cV (pc := 325) g dL_law_325 lk_L_32 (Nat.le_of_ble_eq_true rfl) (Runs.left (c_X4_sneezer _ _ h.1.1) _ rfl (xW_cl _ _ _ _ _ _ _ _ _ _ _ _ _ _ _ _ _ _) rfl) rfl rfl rfl rfl (Nat.le_of_ble_eq_true rfl) (fun r1 w1 hq => ?_)
  obtain ⟨_, _, ⟨rfl, rfl⟩, -, rfl, rfl⟩ := hq
  refine v_stE [.int (r_4 S (xs (i + 1)) (xs (i + 2)))] rfl ?_
  refine v_w (xW (s_4 S (xs (i + 1)) (xs (i + 2))) u0 T u1 K u2 tb tl ni ns ne nk nv wi si nu (f_4 S fn (xs (i + 1)) (xs (i + 2))) kp ++ mX (rowOf S) fn of tr b1 tb tl so be te wo va gd wi si nu le im bf kp) (by rw [xW_cl]) ?_
  refine v_aload_n (pc := 328) 2 g dL_law_328 rfl rfl ?_
  refine v_aload_n (pc := 329) 0 g dL_law_329 rfl rfl ?_
  refine v_iload_n (pc := 330) 3 g dL_law_330 rfl rfl ?_
  refine v_iconst (pc := 331) (v := 1) g dL_law_331 (by decide) ?_
  refine v_iadd (pc := 332) g dL_law_332 ?_
  refine v_sld (pc := 333) (i + 1) g hp dL_law_333 (nI_add i 1) (by omega) hL ?_
  refine v_aload_n (pc := 334) 0 g dL_law_334 rfl rfl ?_
  refine v_iload_n (pc := 335) 3 g dL_law_335 rfl rfl ?_
  refine v_iconst (pc := 336) (v := 2) g dL_law_336 (by decide) ?_
  refine v_iadd (pc := 337) g dL_law_337 ?_
  refine v_sld (pc := 338) (i + 2) g hp dL_law_338 (nI_add i 2) (by omega) hL ?_
  refine v_cV (pc := 339) g dL_law_339 lk_L_35 (Nat.le_of_ble_eq_true rfl) (Runs.right (c_X5_sneezer S _ _ h.1.1) _ rfl rfl (mW_cl _ _ _ _ _ _ _ _ _ _ _ _ _ _ _ _ _ _ _ _) rfl) rfl rfl rfl rfl (Nat.le_of_ble_eq_true rfl) (fun r1 w1 hq => ?_)
  obtain ⟨_, _, ⟨rfl, rfl⟩, -, rfl, rfl⟩ := hq
  refine v_stE [.int (r_4 S (xs (i + 1)) (xs (i + 2))), .int (r_4 S (xs (i + 1)) (xs (i + 2)))] rfl ?_
  refine v_w (xW (s_4 S (xs (i + 1)) (xs (i + 2))) u0 T u1 K u2 tb tl ni ns ne nk nv wi si nu (f_4 S fn (xs (i + 1)) (xs (i + 2))) kp ++ mX (rowOf (s_4 S (xs (i + 1)) (xs (i + 2)))) (f_4 S fn (xs (i + 1)) (xs (i + 2))) of tr b1 tb tl so be te wo va gd wi si nu le im bf kp) (by rw [mW_cl]) ?_
  refine v_icmp_eq (pc := 342) 1291 g dL_law_342 rfl (fun _ => ?_) (fun c => absurd rfl c)
  refine v_iinc (pc := 1291) _ _ g dL_law_1291 rfl rfl hp.nL.symm rfl ?_
  refine v_loE [some (.ref 3000), some (.ref 0), some (.ref 39), some (.int (nI (i + 6)))] (by show [_, _, _, some (Value.int (nI i + nI 6))] = _; rw [nI_add]; rfl) ?_
  refine v_goto (pc := 1294) 18 g dL_law_1294 rfl ?_
  exact ih _ _ _ _ _ _ _ _ _ _ _ _ _ _ _ _ _ _ _ _ _ _ _ _ _ _ _ _ _ _ (⟨h.1.s_4 _ _, h.2⟩)
set_option maxRecDepth 20000 in
set_option maxHeartbeats 2000000 in
theorem lc_5 {S : St} {u0 : Int32} {T : St} {u1 : Int32} {K : St} {u2 : Int32} {tb : Nat → Int32} {tl : Nat} {ni : Int32} {ns : Int32} {ne : Int32} {nk : Int32} {nv : Int32} {wi : Nat → Int32} {si : Nat → Int32} {nu : Nat → Int64} {fn : Nat → Int32} {kp : Int32} {of : Int32} {tr : Nat → Int32} {b1 : Nat → Int32} {so : Int32} {be : Int32} {te : Int32} {wo : Int64} {va : Int32} {gd : Int32} {le : Nat → Int64} {im : Nat → Int32} {bf : Nat → Int32} {X : VX} {L i : Nat} {xs : Nat → Int32} (g : VG X code RL 13) (hp : LawP L xs X) (hL : L ≤ 3072) (hi : i + 6 ≤ L) (h : LInv S K tb tl si im kp) (ih : Lp X (i + 6)) : V X 347 [some (.ref 3000), some (.ref 0), some (.ref 39), some (.int (nI i))] [] (xW S u0 T u1 K u2 tb tl ni ns ne nk nv wi si nu fn kp ++ mX (rowOf S) fn of tr b1 tb tl so be te wo va gd wi si nu le im bf kp) := by
  refine v_aload_n (pc := 347) 1 g dL_law_347 rfl rfl ?_
  refine v_aload_n (pc := 348) 0 g dL_law_348 rfl rfl ?_
  refine v_iload_n (pc := 349) 3 g dL_law_349 rfl rfl ?_
  refine v_iconst (pc := 350) (v := 1) g dL_law_350 (by decide) ?_
  refine v_iadd (pc := 351) g dL_law_351 ?_
  refine v_sld (pc := 352) (i + 1) g hp dL_law_352 (nI_add i 1) (by omega) hL ?_
  refine v_aload_n (pc := 353) 0 g dL_law_353 rfl rfl ?_
  refine v_iload_n (pc := 354) 3 g dL_law_354 rfl rfl ?_
  refine v_iconst (pc := 355) (v := 2) g dL_law_355 (by decide) ?_
  refine v_iadd (pc := 356) g dL_law_356 ?_
  refine v_sld (pc := 357) (i + 2) g hp dL_law_357 (nI_add i 2) (by omega) hL ?_
  refine v_cV (pc := 358) g dL_law_358 lk_L_36 (Nat.le_of_ble_eq_true rfl) (Runs.left (c_X4_of _ _ h.1.1) _ rfl (xW_cl _ _ _ _ _ _ _ _ _ _ _ _ _ _ _ _ _ _) rfl) rfl rfl rfl rfl (Nat.le_of_ble_eq_true rfl) (fun r1 w1 hq => ?_)
  obtain ⟨_, _, ⟨rfl, rfl⟩, -, rfl, rfl⟩ := hq
  refine v_stE [.int (r_5 S (xs (i + 1)) (xs (i + 2)))] rfl ?_
  refine v_w (xW S u0 T u1 K u2 tb tl ni ns ne nk nv wi si nu (fdI (C5 S (xs (i + 1)) (xs (i + 2))) fn 0) kp ++ mX (rowOf S) fn of tr b1 tb tl so be te wo va gd wi si nu le im bf kp) (by rw [xW_cl]) ?_
  refine v_aload_n (pc := 361) 2 g dL_law_361 rfl rfl ?_
  refine v_aload_n (pc := 362) 0 g dL_law_362 rfl rfl ?_
  refine v_iload_n (pc := 363) 3 g dL_law_363 rfl rfl ?_
  refine v_iconst (pc := 364) (v := 1) g dL_law_364 (by decide) ?_
  refine v_iadd (pc := 365) g dL_law_365 ?_
  refine v_sld (pc := 366) (i + 1) g hp dL_law_366 (nI_add i 1) (by omega) hL ?_
  refine v_aload_n (pc := 367) 0 g dL_law_367 rfl rfl ?_
  refine v_iload_n (pc := 368) 3 g dL_law_368 rfl rfl ?_
  refine v_iconst (pc := 369) (v := 2) g dL_law_369 (by decide) ?_
  refine v_iadd (pc := 370) g dL_law_370 ?_
  refine v_sld (pc := 371) (i + 2) g hp dL_law_371 (nI_add i 2) (by omega) hL ?_
  refine v_cV (pc := 372) g dL_law_372 lk_L_39 (Nat.le_of_ble_eq_true rfl) (Runs.right (c_X5_of S _ _ h.1.1) _ rfl rfl (mW_cl _ _ _ _ _ _ _ _ _ _ _ _ _ _ _ _ _ _ _ _) rfl) rfl rfl rfl rfl (Nat.le_of_ble_eq_true rfl) (fun r1 w1 hq => ?_)
  obtain ⟨_, _, ⟨rfl, rfl⟩, -, rfl, rfl⟩ := hq
  refine v_stE [.int (r_5 S (xs (i + 1)) (xs (i + 2))), .int (r_5 S (xs (i + 1)) (xs (i + 2)))] rfl ?_
  refine v_w (xW S u0 T u1 K u2 tb tl ni ns ne nk nv wi si nu (fdI (C5 S (xs (i + 1)) (xs (i + 2))) fn 0) kp ++ mX (rowOf S) (fdI (C5 S (xs (i + 1)) (xs (i + 2))) fn 0) of tr b1 tb tl so be te wo va gd wi si nu le im bf kp) (by rw [mW_cl]) ?_
  refine v_icmp_eq (pc := 375) 1291 g dL_law_375 rfl (fun _ => ?_) (fun c => absurd rfl c)
  refine v_iinc (pc := 1291) _ _ g dL_law_1291 rfl rfl hp.nL.symm rfl ?_
  refine v_loE [some (.ref 3000), some (.ref 0), some (.ref 39), some (.int (nI (i + 6)))] (by show [_, _, _, some (Value.int (nI i + nI 6))] = _; rw [nI_add]; rfl) ?_
  refine v_goto (pc := 1294) 18 g dL_law_1294 rfl ?_
  exact ih _ _ _ _ _ _ _ _ _ _ _ _ _ _ _ _ _ _ _ _ _ _ _ _ _ _ _ _ _ _ (h)
set_option maxRecDepth 20000 in
set_option maxHeartbeats 2000000 in
theorem lc_6 {S : St} {u0 : Int32} {T : St} {u1 : Int32} {K : St} {u2 : Int32} {tb : Nat → Int32} {tl : Nat} {ni : Int32} {ns : Int32} {ne : Int32} {nk : Int32} {nv : Int32} {wi : Nat → Int32} {si : Nat → Int32} {nu : Nat → Int64} {fn : Nat → Int32} {kp : Int32} {of : Int32} {tr : Nat → Int32} {b1 : Nat → Int32} {so : Int32} {be : Int32} {te : Int32} {wo : Int64} {va : Int32} {gd : Int32} {le : Nat → Int64} {im : Nat → Int32} {bf : Nat → Int32} {X : VX} {L i : Nat} {xs : Nat → Int32} (g : VG X code RL 13) (hp : LawP L xs X) (hL : L ≤ 3072) (hi : i + 6 ≤ L) (h : LInv S K tb tl si im kp) (ih : Lp X (i + 6)) : V X 380 [some (.ref 3000), some (.ref 0), some (.ref 39), some (.int (nI i))] [] (xW S u0 T u1 K u2 tb tl ni ns ne nk nv wi si nu fn kp ++ mX (rowOf S) fn of tr b1 tb tl so be te wo va gd wi si nu le im bf kp) := by
  refine v_aload_n (pc := 380) 1 g dL_law_380 rfl rfl ?_
  refine v_aload_n (pc := 381) 0 g dL_law_381 rfl rfl ?_
  refine v_iload_n (pc := 382) 3 g dL_law_382 rfl rfl ?_
  refine v_iconst (pc := 383) (v := 1) g dL_law_383 (by decide) ?_
  refine v_iadd (pc := 384) g dL_law_384 ?_
  refine v_sld (pc := 385) (i + 1) g hp dL_law_385 (nI_add i 1) (by omega) hL ?_
  refine v_aload_n (pc := 386) 0 g dL_law_386 rfl rfl ?_
  refine v_iload_n (pc := 387) 3 g dL_law_387 rfl rfl ?_
  refine v_iconst (pc := 388) (v := 2) g dL_law_388 (by decide) ?_
  refine v_iadd (pc := 389) g dL_law_389 ?_
  refine v_sld (pc := 390) (i + 2) g hp dL_law_390 (nI_add i 2) (by omega) hL ?_
  refine v_aload_n (pc := 391) 0 g dL_law_391 rfl rfl ?_
  refine v_iload_n (pc := 392) 3 g dL_law_392 rfl rfl ?_
  refine v_iconst (pc := 393) (v := 3) g dL_law_393 (by decide) ?_
  refine v_iadd (pc := 394) g dL_law_394 ?_
  refine v_sld (pc := 395) (i + 3) g hp dL_law_395 (nI_add i 3) (by omega) hL ?_
  refine v_cV (pc := 396) g dL_law_396 lk_L_40 (Nat.le_of_ble_eq_true rfl) (Runs.left (c_X4_set _ _ _ h.1.1) _ rfl (xW_cl _ _ _ _ _ _ _ _ _ _ _ _ _ _ _ _ _ _) rfl) rfl rfl rfl rfl (Nat.le_of_ble_eq_true rfl) (fun r1 w1 hq => ?_)
  obtain ⟨_, _, ⟨rfl, rfl⟩, -, rfl, rfl⟩ := hq
  refine v_stE [.int (r_6 S (xs (i + 1)) (xs (i + 2)) (xs (i + 3)))] rfl ?_
  refine v_w (xW (s_6 S (xs (i + 1)) (xs (i + 2)) (xs (i + 3))) u0 T u1 K u2 tb tl ni ns ne nk nv wi si nu (fdI (C6 S (xs (i + 1)) (xs (i + 2)) (xs (i + 3))) fn 0) kp ++ mX (rowOf S) fn of tr b1 tb tl so be te wo va gd wi si nu le im bf kp) (by rw [xW_cl]) ?_
  refine v_aload_n (pc := 399) 2 g dL_law_399 rfl rfl ?_
  refine v_aload_n (pc := 400) 0 g dL_law_400 rfl rfl ?_
  refine v_iload_n (pc := 401) 3 g dL_law_401 rfl rfl ?_
  refine v_iconst (pc := 402) (v := 1) g dL_law_402 (by decide) ?_
  refine v_iadd (pc := 403) g dL_law_403 ?_
  refine v_sld (pc := 404) (i + 1) g hp dL_law_404 (nI_add i 1) (by omega) hL ?_
  refine v_aload_n (pc := 405) 0 g dL_law_405 rfl rfl ?_
  refine v_iload_n (pc := 406) 3 g dL_law_406 rfl rfl ?_
  refine v_iconst (pc := 407) (v := 2) g dL_law_407 (by decide) ?_
  refine v_iadd (pc := 408) g dL_law_408 ?_
  refine v_sld (pc := 409) (i + 2) g hp dL_law_409 (nI_add i 2) (by omega) hL ?_
  refine v_aload_n (pc := 410) 0 g dL_law_410 rfl rfl ?_
  refine v_iload_n (pc := 411) 3 g dL_law_411 rfl rfl ?_
  refine v_iconst (pc := 412) (v := 3) g dL_law_412 (by decide) ?_
  refine v_iadd (pc := 413) g dL_law_413 ?_
  refine v_sld (pc := 414) (i + 3) g hp dL_law_414 (nI_add i 3) (by omega) hL ?_
  refine v_cV (pc := 415) g dL_law_415 lk_L_43 (Nat.le_of_ble_eq_true rfl) (Runs.right (c_X5_set S _ _ _ h.1.1) _ rfl rfl (mW_cl _ _ _ _ _ _ _ _ _ _ _ _ _ _ _ _ _ _ _ _) rfl) rfl rfl rfl rfl (Nat.le_of_ble_eq_true rfl) (fun r1 w1 hq => ?_)
  obtain ⟨_, _, ⟨rfl, rfl⟩, -, rfl, rfl⟩ := hq
  refine v_stE [.int (r_6 S (xs (i + 1)) (xs (i + 2)) (xs (i + 3))), .int (r_6 S (xs (i + 1)) (xs (i + 2)) (xs (i + 3)))] rfl ?_
  refine v_w (xW (s_6 S (xs (i + 1)) (xs (i + 2)) (xs (i + 3))) u0 T u1 K u2 tb tl ni ns ne nk nv wi si nu (fdI (C6 S (xs (i + 1)) (xs (i + 2)) (xs (i + 3))) fn 0) kp ++ mX (rowOf (s_6 S (xs (i + 1)) (xs (i + 2)) (xs (i + 3)))) (fdI (C6 S (xs (i + 1)) (xs (i + 2)) (xs (i + 3))) fn 0) of tr b1 tb tl so be te wo va gd wi si nu le im bf kp) (by rw [mW_cl]) ?_
  refine v_icmp_eq (pc := 418) 1291 g dL_law_418 rfl (fun _ => ?_) (fun c => absurd rfl c)
  refine v_iinc (pc := 1291) _ _ g dL_law_1291 rfl rfl hp.nL.symm rfl ?_
  refine v_loE [some (.ref 3000), some (.ref 0), some (.ref 39), some (.int (nI (i + 6)))] (by show [_, _, _, some (Value.int (nI i + nI 6))] = _; rw [nI_add]; rfl) ?_
  refine v_goto (pc := 1294) 18 g dL_law_1294 rfl ?_
  exact ih _ _ _ _ _ _ _ _ _ _ _ _ _ _ _ _ _ _ _ _ _ _ _ _ _ _ _ _ _ _ (⟨h.1.s_6 _ _ _, h.2⟩)
set_option maxRecDepth 20000 in
set_option maxHeartbeats 2000000 in
theorem lc_7 {S : St} {u0 : Int32} {T : St} {u1 : Int32} {K : St} {u2 : Int32} {tb : Nat → Int32} {tl : Nat} {ni : Int32} {ns : Int32} {ne : Int32} {nk : Int32} {nv : Int32} {wi : Nat → Int32} {si : Nat → Int32} {nu : Nat → Int64} {fn : Nat → Int32} {kp : Int32} {of : Int32} {tr : Nat → Int32} {b1 : Nat → Int32} {so : Int32} {be : Int32} {te : Int32} {wo : Int64} {va : Int32} {gd : Int32} {le : Nat → Int64} {im : Nat → Int32} {bf : Nat → Int32} {X : VX} {L i : Nat} {xs : Nat → Int32} (g : VG X code RL 13) (hp : LawP L xs X) (hL : L ≤ 3072) (hi : i + 6 ≤ L) (h : LInv S K tb tl si im kp) (ih : Lp X (i + 6)) : V X 423 [some (.ref 3000), some (.ref 0), some (.ref 39), some (.int (nI i))] [] (xW S u0 T u1 K u2 tb tl ni ns ne nk nv wi si nu fn kp ++ mX (rowOf S) fn of tr b1 tb tl so be te wo va gd wi si nu le im bf kp) := by
  refine v_aload_n (pc := 423) 1 g dL_law_423 rfl rfl ?_
  refine v_aload_n (pc := 424) 0 g dL_law_424 rfl rfl ?_
  refine v_iload_n (pc := 425) 3 g dL_law_425 rfl rfl ?_
  refine v_iconst (pc := 426) (v := 1) g dL_law_426 (by decide) ?_
  refine v_iadd (pc := 427) g dL_law_427 ?_
  refine v_sld (pc := 428) (i + 1) g hp dL_law_428 (nI_add i 1) (by omega) hL ?_
  refine v_aload_n (pc := 429) 0 g dL_law_429 rfl rfl ?_
  refine v_iload_n (pc := 430) 3 g dL_law_430 rfl rfl ?_
  refine v_iconst (pc := 431) (v := 2) g dL_law_431 (by decide) ?_
  refine v_iadd (pc := 432) g dL_law_432 ?_
  refine v_sld (pc := 433) (i + 2) g hp dL_law_433 (nI_add i 2) (by omega) hL ?_
  refine v_cV (pc := 434) g dL_law_434 lk_L_44 (Nat.le_of_ble_eq_true rfl) (Runs.left (c_X4_turn _ _ h.1.1) _ rfl (xW_cl _ _ _ _ _ _ _ _ _ _ _ _ _ _ _ _ _ _) rfl) rfl rfl rfl rfl (Nat.le_of_ble_eq_true rfl) (fun r1 w1 hq => ?_)
  obtain ⟨_, _, ⟨rfl, rfl⟩, -, rfl, rfl⟩ := hq
  refine v_stE [.int (r_7 S (xs (i + 1)) (xs (i + 2)))] rfl ?_
  refine v_w (xW (s_7 S (xs (i + 1)) (xs (i + 2))) u0 T u1 K u2 tb tl ni ns ne nk nv wi si nu (fdI (C7 S (xs (i + 1)) (xs (i + 2))) fn 0) kp ++ mX (rowOf S) fn of tr b1 tb tl so be te wo va gd wi si nu le im bf kp) (by rw [xW_cl]) ?_
  refine v_aload_n (pc := 437) 2 g dL_law_437 rfl rfl ?_
  refine v_aload_n (pc := 438) 0 g dL_law_438 rfl rfl ?_
  refine v_iload_n (pc := 439) 3 g dL_law_439 rfl rfl ?_
  refine v_iconst (pc := 440) (v := 1) g dL_law_440 (by decide) ?_
  refine v_iadd (pc := 441) g dL_law_441 ?_
  refine v_sld (pc := 442) (i + 1) g hp dL_law_442 (nI_add i 1) (by omega) hL ?_
  refine v_aload_n (pc := 443) 0 g dL_law_443 rfl rfl ?_
  refine v_iload_n (pc := 444) 3 g dL_law_444 rfl rfl ?_
  refine v_iconst (pc := 445) (v := 2) g dL_law_445 (by decide) ?_
  refine v_iadd (pc := 446) g dL_law_446 ?_
  refine v_sld (pc := 447) (i + 2) g hp dL_law_447 (nI_add i 2) (by omega) hL ?_
  refine v_cV (pc := 448) g dL_law_448 lk_L_47 (Nat.le_of_ble_eq_true rfl) (Runs.right (c_X5_turn S _ _ h.1.1) _ rfl rfl (mW_cl _ _ _ _ _ _ _ _ _ _ _ _ _ _ _ _ _ _ _ _) rfl) rfl rfl rfl rfl (Nat.le_of_ble_eq_true rfl) (fun r1 w1 hq => ?_)
  obtain ⟨_, _, ⟨rfl, rfl⟩, -, rfl, rfl⟩ := hq
  refine v_stE [.int (r_7 S (xs (i + 1)) (xs (i + 2))), .int (r_7 S (xs (i + 1)) (xs (i + 2)))] rfl ?_
  refine v_w (xW (s_7 S (xs (i + 1)) (xs (i + 2))) u0 T u1 K u2 tb tl ni ns ne nk nv wi si nu (fdI (C7 S (xs (i + 1)) (xs (i + 2))) fn 0) kp ++ mX (rowOf (s_7 S (xs (i + 1)) (xs (i + 2)))) (fdI (C7 S (xs (i + 1)) (xs (i + 2))) fn 0) of tr b1 tb tl so be te wo va gd wi si nu le im bf kp) (by rw [mW_cl]) ?_
  refine v_icmp_eq (pc := 451) 1291 g dL_law_451 rfl (fun _ => ?_) (fun c => absurd rfl c)
  refine v_iinc (pc := 1291) _ _ g dL_law_1291 rfl rfl hp.nL.symm rfl ?_
  refine v_loE [some (.ref 3000), some (.ref 0), some (.ref 39), some (.int (nI (i + 6)))] (by show [_, _, _, some (Value.int (nI i + nI 6))] = _; rw [nI_add]; rfl) ?_
  refine v_goto (pc := 1294) 18 g dL_law_1294 rfl ?_
  exact ih _ _ _ _ _ _ _ _ _ _ _ _ _ _ _ _ _ _ _ _ _ _ _ _ _ _ _ _ _ _ (⟨h.1.s_7 _ _, h.2⟩)
set_option maxRecDepth 20000 in
set_option maxHeartbeats 2000000 in
theorem lc_8 {S : St} {u0 : Int32} {T : St} {u1 : Int32} {K : St} {u2 : Int32} {tb : Nat → Int32} {tl : Nat} {ni : Int32} {ns : Int32} {ne : Int32} {nk : Int32} {nv : Int32} {wi : Nat → Int32} {si : Nat → Int32} {nu : Nat → Int64} {fn : Nat → Int32} {kp : Int32} {of : Int32} {tr : Nat → Int32} {b1 : Nat → Int32} {so : Int32} {be : Int32} {te : Int32} {wo : Int64} {va : Int32} {gd : Int32} {le : Nat → Int64} {im : Nat → Int32} {bf : Nat → Int32} {X : VX} {L i : Nat} {xs : Nat → Int32} (g : VG X code RL 13) (hp : LawP L xs X) (hL : L ≤ 3072) (hi : i + 6 ≤ L) (h : LInv S K tb tl si im kp) (ih : Lp X (i + 6)) : V X 456 [some (.ref 3000), some (.ref 0), some (.ref 39), some (.int (nI i))] [] (xW S u0 T u1 K u2 tb tl ni ns ne nk nv wi si nu fn kp ++ mX (rowOf S) fn of tr b1 tb tl so be te wo va gd wi si nu le im bf kp) := by
  refine v_aload_n (pc := 456) 1 g dL_law_456 rfl rfl ?_
  refine v_aload_n (pc := 457) 0 g dL_law_457 rfl rfl ?_
  refine v_iload_n (pc := 458) 3 g dL_law_458 rfl rfl ?_
  refine v_iconst (pc := 459) (v := 1) g dL_law_459 (by decide) ?_
  refine v_iadd (pc := 460) g dL_law_460 ?_
  refine v_sld (pc := 461) (i + 1) g hp dL_law_461 (nI_add i 1) (by omega) hL ?_
  refine v_aload_n (pc := 462) 0 g dL_law_462 rfl rfl ?_
  refine v_iload_n (pc := 463) 3 g dL_law_463 rfl rfl ?_
  refine v_iconst (pc := 464) (v := 2) g dL_law_464 (by decide) ?_
  refine v_iadd (pc := 465) g dL_law_465 ?_
  refine v_sld (pc := 466) (i + 2) g hp dL_law_466 (nI_add i 2) (by omega) hL ?_
  refine v_cV (pc := 467) g dL_law_467 lk_L_48 (Nat.le_of_ble_eq_true rfl) (Runs.left (c_X4_as _ _ h.1.1) _ rfl (xW_cl _ _ _ _ _ _ _ _ _ _ _ _ _ _ _ _ _ _) rfl) rfl rfl rfl rfl (Nat.le_of_ble_eq_true rfl) (fun r1 w1 hq => ?_)
  obtain ⟨_, _, ⟨rfl, rfl⟩, -, rfl, rfl⟩ := hq
  refine v_stE [.int (r_8 S (xs (i + 1)) (xs (i + 2)))] rfl ?_
  refine v_w (xW S u0 T u1 K u2 tb tl ni ns ne nk nv wi si nu (f_8 S fn (xs (i + 1)) (xs (i + 2))) kp ++ mX (rowOf S) fn of tr b1 tb tl so be te wo va gd wi si nu le im bf kp) (by rw [xW_cl]) ?_
  refine v_aload_n (pc := 470) 2 g dL_law_470 rfl rfl ?_
  refine v_aload_n (pc := 471) 0 g dL_law_471 rfl rfl ?_
  refine v_iload_n (pc := 472) 3 g dL_law_472 rfl rfl ?_
  refine v_iconst (pc := 473) (v := 1) g dL_law_473 (by decide) ?_
  refine v_iadd (pc := 474) g dL_law_474 ?_
  refine v_sld (pc := 475) (i + 1) g hp dL_law_475 (nI_add i 1) (by omega) hL ?_
  refine v_aload_n (pc := 476) 0 g dL_law_476 rfl rfl ?_
  refine v_iload_n (pc := 477) 3 g dL_law_477 rfl rfl ?_
  refine v_iconst (pc := 478) (v := 2) g dL_law_478 (by decide) ?_
  refine v_iadd (pc := 479) g dL_law_479 ?_
  refine v_sld (pc := 480) (i + 2) g hp dL_law_480 (nI_add i 2) (by omega) hL ?_
  refine v_cV (pc := 481) g dL_law_481 lk_L_51 (Nat.le_of_ble_eq_true rfl) (Runs.right (c_X5_as S _ _ h.1.1) _ rfl rfl (mW_cl _ _ _ _ _ _ _ _ _ _ _ _ _ _ _ _ _ _ _ _) rfl) rfl rfl rfl rfl (Nat.le_of_ble_eq_true rfl) (fun r1 w1 hq => ?_)
  obtain ⟨_, _, ⟨rfl, rfl⟩, -, rfl, rfl⟩ := hq
  refine v_stE [.int (r_8 S (xs (i + 1)) (xs (i + 2))), .int (r_8 S (xs (i + 1)) (xs (i + 2)))] rfl ?_
  refine v_w (xW S u0 T u1 K u2 tb tl ni ns ne nk nv wi si nu (f_8 S fn (xs (i + 1)) (xs (i + 2))) kp ++ mX (rowOf S) (f_8 S fn (xs (i + 1)) (xs (i + 2))) of tr b1 tb tl so be te wo va gd wi si nu le im bf kp) (by rw [mW_cl]) ?_
  refine v_icmp_eq (pc := 484) 1291 g dL_law_484 rfl (fun _ => ?_) (fun c => absurd rfl c)
  refine v_iinc (pc := 1291) _ _ g dL_law_1291 rfl rfl hp.nL.symm rfl ?_
  refine v_loE [some (.ref 3000), some (.ref 0), some (.ref 39), some (.int (nI (i + 6)))] (by show [_, _, _, some (Value.int (nI i + nI 6))] = _; rw [nI_add]; rfl) ?_
  refine v_goto (pc := 1294) 18 g dL_law_1294 rfl ?_
  exact ih _ _ _ _ _ _ _ _ _ _ _ _ _ _ _ _ _ _ _ _ _ _ _ _ _ _ _ _ _ _ (h)
set_option maxRecDepth 20000 in
set_option maxHeartbeats 2000000 in
theorem lc_9 {S : St} {u0 : Int32} {T : St} {u1 : Int32} {K : St} {u2 : Int32} {tb : Nat → Int32} {tl : Nat} {ni : Int32} {ns : Int32} {ne : Int32} {nk : Int32} {nv : Int32} {wi : Nat → Int32} {si : Nat → Int32} {nu : Nat → Int64} {fn : Nat → Int32} {kp : Int32} {of : Int32} {tr : Nat → Int32} {b1 : Nat → Int32} {so : Int32} {be : Int32} {te : Int32} {wo : Int64} {va : Int32} {gd : Int32} {le : Nat → Int64} {im : Nat → Int32} {bf : Nat → Int32} {X : VX} {L i : Nat} {xs : Nat → Int32} (g : VG X code RL 13) (hp : LawP L xs X) (hL : L ≤ 3072) (hi : i + 6 ≤ L) (h : LInv S K tb tl si im kp) (ih : Lp X (i + 6)) : V X 489 [some (.ref 3000), some (.ref 0), some (.ref 39), some (.int (nI i))] [] (xW S u0 T u1 K u2 tb tl ni ns ne nk nv wi si nu fn kp ++ mX (rowOf S) fn of tr b1 tb tl so be te wo va gd wi si nu le im bf kp) := by
  refine v_aload_n (pc := 489) 1 g dL_law_489 rfl rfl ?_
  refine v_aload_n (pc := 490) 0 g dL_law_490 rfl rfl ?_
  refine v_iload_n (pc := 491) 3 g dL_law_491 rfl rfl ?_
  refine v_iconst (pc := 492) (v := 1) g dL_law_492 (by decide) ?_
  refine v_iadd (pc := 493) g dL_law_493 ?_
  refine v_sld (pc := 494) (i + 1) g hp dL_law_494 (nI_add i 1) (by omega) hL ?_
  refine v_cV (pc := 495) g dL_law_495 lk_L_52 (Nat.le_of_ble_eq_true rfl) (Runs.left (c_X4_minutes _ h.1.1 h.1.2) _ rfl (xW_cl _ _ _ _ _ _ _ _ _ _ _ _ _ _ _ _ _ _) rfl) rfl rfl rfl rfl (Nat.le_of_ble_eq_true rfl) (fun r1 w1 hq => ?_)
  obtain ⟨_, _, ⟨rfl, rfl⟩, -, rfl, rfl⟩ := hq
  refine v_stE [.int (r_9 S (xs (i + 1)))] rfl ?_
  refine v_w (xW (s_9 S (xs (i + 1))) (if inR (xs (i + 1)) 1 100 ∧ C9 S (xs (i + 1)) then weN S u0 (xs (i + 1)).toNatClampNeg else u0) T u1 K u2 tb tl ni ns ne nk nv wi si nu (f_9 S fn (xs (i + 1))) kp ++ mX (rowOf S) fn of tr b1 tb tl so be te wo va gd wi si nu le im bf kp) (by rw [xW_cl]) ?_
  refine v_aload_n (pc := 498) 2 g dL_law_498 rfl rfl ?_
  refine v_aload_n (pc := 499) 0 g dL_law_499 rfl rfl ?_
  refine v_iload_n (pc := 500) 3 g dL_law_500 rfl rfl ?_
  refine v_iconst (pc := 501) (v := 1) g dL_law_501 (by decide) ?_
  refine v_iadd (pc := 502) g dL_law_502 ?_
  refine v_sld (pc := 503) (i + 1) g hp dL_law_503 (nI_add i 1) (by omega) hL ?_
  refine v_cV (pc := 504) g dL_law_504 lk_L_55 (Nat.le_of_ble_eq_true rfl) (Runs.right (c_X5_minutes S _ h.1.1 h.1.2) _ rfl rfl (mW_cl _ _ _ _ _ _ _ _ _ _ _ _ _ _ _ _ _ _ _ _) rfl) rfl rfl rfl rfl (Nat.le_of_ble_eq_true rfl) (fun r1 w1 hq => ?_)
  obtain ⟨_, _, ⟨o1, rfl, rfl⟩, -, rfl, rfl⟩ := hq
  refine v_stE [.int (r_9 S (xs (i + 1))), .int (r_9 S (xs (i + 1)))] rfl ?_
  refine v_w (xW (s_9 S (xs (i + 1))) (if inR (xs (i + 1)) 1 100 ∧ C9 S (xs (i + 1)) then weN S u0 (xs (i + 1)).toNatClampNeg else u0) T u1 K u2 tb tl ni ns ne nk nv wi si nu (f_9 S fn (xs (i + 1))) kp ++ mX (rowOf (s_9 S (xs (i + 1)))) (f_9 S fn (xs (i + 1))) o1 tr b1 tb tl so be te wo va gd wi si nu le im bf kp) (by rw [mW_cl]) ?_
  refine v_icmp_eq (pc := 507) 1291 g dL_law_507 rfl (fun _ => ?_) (fun c => absurd rfl c)
  refine v_iinc (pc := 1291) _ _ g dL_law_1291 rfl rfl hp.nL.symm rfl ?_
  refine v_loE [some (.ref 3000), some (.ref 0), some (.ref 39), some (.int (nI (i + 6)))] (by show [_, _, _, some (Value.int (nI i + nI 6))] = _; rw [nI_add]; rfl) ?_
  refine v_goto (pc := 1294) 18 g dL_law_1294 rfl ?_
  exact ih _ _ _ _ _ _ _ _ _ _ _ _ _ _ _ _ _ _ _ _ _ _ _ _ _ _ _ _ _ _ (⟨h.1.s_9 _, h.2⟩)
set_option maxRecDepth 20000 in
set_option maxHeartbeats 2000000 in
theorem lc_10 {S : St} {u0 : Int32} {T : St} {u1 : Int32} {K : St} {u2 : Int32} {tb : Nat → Int32} {tl : Nat} {ni : Int32} {ns : Int32} {ne : Int32} {nk : Int32} {nv : Int32} {wi : Nat → Int32} {si : Nat → Int32} {nu : Nat → Int64} {fn : Nat → Int32} {kp : Int32} {of : Int32} {tr : Nat → Int32} {b1 : Nat → Int32} {so : Int32} {be : Int32} {te : Int32} {wo : Int64} {va : Int32} {gd : Int32} {le : Nat → Int64} {im : Nat → Int32} {bf : Nat → Int32} {X : VX} {L i : Nat} {xs : Nat → Int32} (g : VG X code RL 13) (hp : LawP L xs X) (hL : L ≤ 3072) (hi : i + 6 ≤ L) (h : LInv S K tb tl si im kp) (ih : Lp X (i + 6)) : V X 512 [some (.ref 3000), some (.ref 0), some (.ref 39), some (.int (nI i))] [] (xW S u0 T u1 K u2 tb tl ni ns ne nk nv wi si nu fn kp ++ mX (rowOf S) fn of tr b1 tb tl so be te wo va gd wi si nu le im bf kp) := by
  refine v_aload_n (pc := 512) 1 g dL_law_512 rfl rfl ?_
  refine v_aload_n (pc := 513) 0 g dL_law_513 rfl rfl ?_
  refine v_iload_n (pc := 514) 3 g dL_law_514 rfl rfl ?_
  refine v_iconst (pc := 515) (v := 1) g dL_law_515 (by decide) ?_
  refine v_iadd (pc := 516) g dL_law_516 ?_
  refine v_sld (pc := 517) (i + 1) g hp dL_law_517 (nI_add i 1) (by omega) hL ?_
  refine v_aload_n (pc := 518) 0 g dL_law_518 rfl rfl ?_
  refine v_iload_n (pc := 519) 3 g dL_law_519 rfl rfl ?_
  refine v_iconst (pc := 520) (v := 2) g dL_law_520 (by decide) ?_
  refine v_iadd (pc := 521) g dL_law_521 ?_
  refine v_sld (pc := 522) (i + 2) g hp dL_law_522 (nI_add i 2) (by omega) hL ?_
  refine v_aload_n (pc := 523) 0 g dL_law_523 rfl rfl ?_
  refine v_iload_n (pc := 524) 3 g dL_law_524 rfl rfl ?_
  refine v_iconst (pc := 525) (v := 3) g dL_law_525 (by decide) ?_
  refine v_iadd (pc := 526) g dL_law_526 ?_
  refine v_sld (pc := 527) (i + 3) g hp dL_law_527 (nI_add i 3) (by omega) hL ?_
  refine v_cV (pc := 528) g dL_law_528 lk_L_56 (Nat.le_of_ble_eq_true rfl) (Runs.left (c_X4_on _ _ _ h.1.1) _ rfl (xW_cl _ _ _ _ _ _ _ _ _ _ _ _ _ _ _ _ _ _) rfl) rfl rfl rfl rfl (Nat.le_of_ble_eq_true rfl) (fun r1 w1 hq => ?_)
  obtain ⟨_, _, ⟨T1, v1, rfl, rfl⟩, -, rfl, rfl⟩ := hq
  refine v_stE [.int (r_10 S (xs (i + 1)) (xs (i + 2)) (xs (i + 3)))] rfl ?_
  refine v_w (xW S u0 T1 v1 K u2 tb tl ni ns ne nk nv wi si nu (fdI (C10 S (xs (i + 1)) (xs (i + 2)) (xs (i + 3))) fn 0) kp ++ mX (rowOf S) fn of tr b1 tb tl so be te wo va gd wi si nu le im bf kp) (by rw [xW_cl]) ?_
  refine v_aload_n (pc := 531) 2 g dL_law_531 rfl rfl ?_
  refine v_aload_n (pc := 532) 0 g dL_law_532 rfl rfl ?_
  refine v_iload_n (pc := 533) 3 g dL_law_533 rfl rfl ?_
  refine v_iconst (pc := 534) (v := 1) g dL_law_534 (by decide) ?_
  refine v_iadd (pc := 535) g dL_law_535 ?_
  refine v_sld (pc := 536) (i + 1) g hp dL_law_536 (nI_add i 1) (by omega) hL ?_
  refine v_aload_n (pc := 537) 0 g dL_law_537 rfl rfl ?_
  refine v_iload_n (pc := 538) 3 g dL_law_538 rfl rfl ?_
  refine v_iconst (pc := 539) (v := 2) g dL_law_539 (by decide) ?_
  refine v_iadd (pc := 540) g dL_law_540 ?_
  refine v_sld (pc := 541) (i + 2) g hp dL_law_541 (nI_add i 2) (by omega) hL ?_
  refine v_aload_n (pc := 542) 0 g dL_law_542 rfl rfl ?_
  refine v_iload_n (pc := 543) 3 g dL_law_543 rfl rfl ?_
  refine v_iconst (pc := 544) (v := 3) g dL_law_544 (by decide) ?_
  refine v_iadd (pc := 545) g dL_law_545 ?_
  refine v_sld (pc := 546) (i + 3) g hp dL_law_546 (nI_add i 3) (by omega) hL ?_
  refine v_cV (pc := 547) g dL_law_547 lk_L_59 (Nat.le_of_ble_eq_true rfl) (Runs.right (c_X5_on S _ _ _ h.1.1) _ rfl rfl (mW_cl _ _ _ _ _ _ _ _ _ _ _ _ _ _ _ _ _ _ _ _) rfl) rfl rfl rfl rfl (Nat.le_of_ble_eq_true rfl) (fun r1 w1 hq => ?_)
  obtain ⟨_, _, ⟨o1, t1, rfl, rfl⟩, -, rfl, rfl⟩ := hq
  refine v_stE [.int (r_10 S (xs (i + 1)) (xs (i + 2)) (xs (i + 3))), .int (r_10 S (xs (i + 1)) (xs (i + 2)) (xs (i + 3)))] rfl ?_
  refine v_w (xW S u0 T1 v1 K u2 tb tl ni ns ne nk nv wi si nu (fdI (C10 S (xs (i + 1)) (xs (i + 2)) (xs (i + 3))) fn 0) kp ++ mX (rowOf S) (fdI (C10 S (xs (i + 1)) (xs (i + 2)) (xs (i + 3))) fn 0) o1 t1 b1 tb tl so be te wo va gd wi si nu le im bf kp) (by rw [mW_cl]) ?_
  refine v_icmp_eq (pc := 550) 1291 g dL_law_550 rfl (fun _ => ?_) (fun c => absurd rfl c)
  refine v_iinc (pc := 1291) _ _ g dL_law_1291 rfl rfl hp.nL.symm rfl ?_
  refine v_loE [some (.ref 3000), some (.ref 0), some (.ref 39), some (.int (nI (i + 6)))] (by show [_, _, _, some (Value.int (nI i + nI 6))] = _; rw [nI_add]; rfl) ?_
  refine v_goto (pc := 1294) 18 g dL_law_1294 rfl ?_
  exact ih _ _ _ _ _ _ _ _ _ _ _ _ _ _ _ _ _ _ _ _ _ _ _ _ _ _ _ _ _ _ (h)
set_option maxRecDepth 20000 in
set_option maxHeartbeats 2000000 in
theorem lc_11 {S : St} {u0 : Int32} {T : St} {u1 : Int32} {K : St} {u2 : Int32} {tb : Nat → Int32} {tl : Nat} {ni : Int32} {ns : Int32} {ne : Int32} {nk : Int32} {nv : Int32} {wi : Nat → Int32} {si : Nat → Int32} {nu : Nat → Int64} {fn : Nat → Int32} {kp : Int32} {of : Int32} {tr : Nat → Int32} {b1 : Nat → Int32} {so : Int32} {be : Int32} {te : Int32} {wo : Int64} {va : Int32} {gd : Int32} {le : Nat → Int64} {im : Nat → Int32} {bf : Nat → Int32} {X : VX} {L i : Nat} {xs : Nat → Int32} (g : VG X code RL 13) (hp : LawP L xs X) (hL : L ≤ 3072) (hi : i + 6 ≤ L) (h : LInv S K tb tl si im kp) (ih : Lp X (i + 6)) : V X 555 [some (.ref 3000), some (.ref 0), some (.ref 39), some (.int (nI i))] [] (xW S u0 T u1 K u2 tb tl ni ns ne nk nv wi si nu fn kp ++ mX (rowOf S) fn of tr b1 tb tl so be te wo va gd wi si nu le im bf kp) := by
  refine v_aload_n (pc := 555) 1 g dL_law_555 rfl rfl ?_
  refine v_aload_n (pc := 556) 0 g dL_law_556 rfl rfl ?_
  refine v_iload_n (pc := 557) 3 g dL_law_557 rfl rfl ?_
  refine v_iconst (pc := 558) (v := 1) g dL_law_558 (by decide) ?_
  refine v_iadd (pc := 559) g dL_law_559 ?_
  refine v_sld (pc := 560) (i + 1) g hp dL_law_560 (nI_add i 1) (by omega) hL ?_
  refine v_aload_n (pc := 561) 0 g dL_law_561 rfl rfl ?_
  refine v_iload_n (pc := 562) 3 g dL_law_562 rfl rfl ?_
  refine v_iconst (pc := 563) (v := 2) g dL_law_563 (by decide) ?_
  refine v_iadd (pc := 564) g dL_law_564 ?_
  refine v_sld (pc := 565) (i + 2) g hp dL_law_565 (nI_add i 2) (by omega) hL ?_
  refine v_aload_n (pc := 566) 0 g dL_law_566 rfl rfl ?_
  refine v_iload_n (pc := 567) 3 g dL_law_567 rfl rfl ?_
  refine v_iconst (pc := 568) (v := 3) g dL_law_568 (by decide) ?_
  refine v_iadd (pc := 569) g dL_law_569 ?_
  refine v_sld (pc := 570) (i + 3) g hp dL_law_570 (nI_add i 3) (by omega) hL ?_
  refine v_cV (pc := 571) g dL_law_571 lk_L_60 (Nat.le_of_ble_eq_true rfl) (Runs.left (c_X4_then _ _ _ h.1.1) _ rfl (xW_cl _ _ _ _ _ _ _ _ _ _ _ _ _ _ _ _ _ _) rfl) rfl rfl rfl rfl (Nat.le_of_ble_eq_true rfl) (fun r1 w1 hq => ?_)
  obtain ⟨_, _, ⟨T1, v1, rfl, rfl⟩, -, rfl, rfl⟩ := hq
  refine v_stE [.int (r_11 S (xs (i + 1)) (xs (i + 2)) (xs (i + 3)))] rfl ?_
  refine v_w (xW S u0 T1 v1 K u2 tb tl ni ns ne nk nv wi si nu (fdI (C11 (xs (i + 1)) (xs (i + 2)) (xs (i + 3))) fn 0) kp ++ mX (rowOf S) fn of tr b1 tb tl so be te wo va gd wi si nu le im bf kp) (by rw [xW_cl]) ?_
  refine v_aload_n (pc := 574) 2 g dL_law_574 rfl rfl ?_
  refine v_aload_n (pc := 575) 0 g dL_law_575 rfl rfl ?_
  refine v_iload_n (pc := 576) 3 g dL_law_576 rfl rfl ?_
  refine v_iconst (pc := 577) (v := 1) g dL_law_577 (by decide) ?_
  refine v_iadd (pc := 578) g dL_law_578 ?_
  refine v_sld (pc := 579) (i + 1) g hp dL_law_579 (nI_add i 1) (by omega) hL ?_
  refine v_aload_n (pc := 580) 0 g dL_law_580 rfl rfl ?_
  refine v_iload_n (pc := 581) 3 g dL_law_581 rfl rfl ?_
  refine v_iconst (pc := 582) (v := 2) g dL_law_582 (by decide) ?_
  refine v_iadd (pc := 583) g dL_law_583 ?_
  refine v_sld (pc := 584) (i + 2) g hp dL_law_584 (nI_add i 2) (by omega) hL ?_
  refine v_aload_n (pc := 585) 0 g dL_law_585 rfl rfl ?_
  refine v_iload_n (pc := 586) 3 g dL_law_586 rfl rfl ?_
  refine v_iconst (pc := 587) (v := 3) g dL_law_587 (by decide) ?_
  refine v_iadd (pc := 588) g dL_law_588 ?_
  refine v_sld (pc := 589) (i + 3) g hp dL_law_589 (nI_add i 3) (by omega) hL ?_
  refine v_cV (pc := 590) g dL_law_590 lk_L_63 (Nat.le_of_ble_eq_true rfl) (Runs.right (c_X5_then S _ _ _ h.1.1) _ rfl rfl (mW_cl _ _ _ _ _ _ _ _ _ _ _ _ _ _ _ _ _ _ _ _) rfl) rfl rfl rfl rfl (Nat.le_of_ble_eq_true rfl) (fun r1 w1 hq => ?_)
  obtain ⟨_, _, ⟨o1, t1, rfl, rfl⟩, -, rfl, rfl⟩ := hq
  refine v_stE [.int (r_11 S (xs (i + 1)) (xs (i + 2)) (xs (i + 3))), .int (r_11 S (xs (i + 1)) (xs (i + 2)) (xs (i + 3)))] rfl ?_
  refine v_w (xW S u0 T1 v1 K u2 tb tl ni ns ne nk nv wi si nu (fdI (C11 (xs (i + 1)) (xs (i + 2)) (xs (i + 3))) fn 0) kp ++ mX (rowOf S) (fdI (C11 (xs (i + 1)) (xs (i + 2)) (xs (i + 3))) fn 0) o1 t1 b1 tb tl so be te wo va gd wi si nu le im bf kp) (by rw [mW_cl]) ?_
  refine v_icmp_eq (pc := 593) 1291 g dL_law_593 rfl (fun _ => ?_) (fun c => absurd rfl c)
  refine v_iinc (pc := 1291) _ _ g dL_law_1291 rfl rfl hp.nL.symm rfl ?_
  refine v_loE [some (.ref 3000), some (.ref 0), some (.ref 39), some (.int (nI (i + 6)))] (by show [_, _, _, some (Value.int (nI i + nI 6))] = _; rw [nI_add]; rfl) ?_
  refine v_goto (pc := 1294) 18 g dL_law_1294 rfl ?_
  exact ih _ _ _ _ _ _ _ _ _ _ _ _ _ _ _ _ _ _ _ _ _ _ _ _ _ _ _ _ _ _ (h)
set_option maxRecDepth 20000 in
set_option maxHeartbeats 2000000 in
theorem lc_12 {S : St} {u0 : Int32} {T : St} {u1 : Int32} {K : St} {u2 : Int32} {tb : Nat → Int32} {tl : Nat} {ni : Int32} {ns : Int32} {ne : Int32} {nk : Int32} {nv : Int32} {wi : Nat → Int32} {si : Nat → Int32} {nu : Nat → Int64} {fn : Nat → Int32} {kp : Int32} {of : Int32} {tr : Nat → Int32} {b1 : Nat → Int32} {so : Int32} {be : Int32} {te : Int32} {wo : Int64} {va : Int32} {gd : Int32} {le : Nat → Int64} {im : Nat → Int32} {bf : Nat → Int32} {X : VX} {L i : Nat} {xs : Nat → Int32} (g : VG X code RL 13) (hp : LawP L xs X) (hL : L ≤ 3072) (hi : i + 6 ≤ L) (h : LInv S K tb tl si im kp) (ih : Lp X (i + 6)) : V X 598 [some (.ref 3000), some (.ref 0), some (.ref 39), some (.int (nI i))] [] (xW S u0 T u1 K u2 tb tl ni ns ne nk nv wi si nu fn kp ++ mX (rowOf S) fn of tr b1 tb tl so be te wo va gd wi si nu le im bf kp) := by
  refine v_aload_n (pc := 598) 1 g dL_law_598 rfl rfl ?_
  refine v_aload_n (pc := 599) 0 g dL_law_599 rfl rfl ?_
  refine v_iload_n (pc := 600) 3 g dL_law_600 rfl rfl ?_
  refine v_iconst (pc := 601) (v := 1) g dL_law_601 (by decide) ?_
  refine v_iadd (pc := 602) g dL_law_602 ?_
  refine v_sld (pc := 603) (i + 1) g hp dL_law_603 (nI_add i 1) (by omega) hL ?_
  refine v_aload_n (pc := 604) 0 g dL_law_604 rfl rfl ?_
  refine v_iload_n (pc := 605) 3 g dL_law_605 rfl rfl ?_
  refine v_iconst (pc := 606) (v := 2) g dL_law_606 (by decide) ?_
  refine v_iadd (pc := 607) g dL_law_607 ?_
  refine v_sld (pc := 608) (i + 2) g hp dL_law_608 (nI_add i 2) (by omega) hL ?_
  refine v_cV (pc := 609) g dL_law_609 lk_L_64 (Nat.le_of_ble_eq_true rfl) (Runs.left (c_X4_lit _ _ h.1.1) _ rfl (xW_cl _ _ _ _ _ _ _ _ _ _ _ _ _ _ _ _ _ _) rfl) rfl rfl rfl rfl (Nat.le_of_ble_eq_true rfl) (fun r1 w1 hq => ?_)
  obtain ⟨_, _, ⟨T1, v1, rfl, rfl⟩, -, rfl, rfl⟩ := hq
  refine v_stE [.int (r_12 S (xs (i + 1)) (xs (i + 2)))] rfl ?_
  refine v_w (xW S u0 T1 v1 K u2 tb tl ni ns ne nk nv wi si nu (f_12 S fn (xs (i + 1)) (xs (i + 2))) kp ++ mX (rowOf S) fn of tr b1 tb tl so be te wo va gd wi si nu le im bf kp) (by rw [xW_cl]) ?_
  refine v_aload_n (pc := 612) 2 g dL_law_612 rfl rfl ?_
  refine v_aload_n (pc := 613) 0 g dL_law_613 rfl rfl ?_
  refine v_iload_n (pc := 614) 3 g dL_law_614 rfl rfl ?_
  refine v_iconst (pc := 615) (v := 1) g dL_law_615 (by decide) ?_
  refine v_iadd (pc := 616) g dL_law_616 ?_
  refine v_sld (pc := 617) (i + 1) g hp dL_law_617 (nI_add i 1) (by omega) hL ?_
  refine v_aload_n (pc := 618) 0 g dL_law_618 rfl rfl ?_
  refine v_iload_n (pc := 619) 3 g dL_law_619 rfl rfl ?_
  refine v_iconst (pc := 620) (v := 2) g dL_law_620 (by decide) ?_
  refine v_iadd (pc := 621) g dL_law_621 ?_
  refine v_sld (pc := 622) (i + 2) g hp dL_law_622 (nI_add i 2) (by omega) hL ?_
  refine v_cV (pc := 623) g dL_law_623 lk_L_67 (Nat.le_of_ble_eq_true rfl) (Runs.right (c_X5_lit S _ _ h.1.1) _ rfl rfl (mW_cl _ _ _ _ _ _ _ _ _ _ _ _ _ _ _ _ _ _ _ _) rfl) rfl rfl rfl rfl (Nat.le_of_ble_eq_true rfl) (fun r1 w1 hq => ?_)
  obtain ⟨_, _, ⟨o1, t1, rfl, rfl⟩, -, rfl, rfl⟩ := hq
  refine v_stE [.int (r_12 S (xs (i + 1)) (xs (i + 2))), .int (r_12 S (xs (i + 1)) (xs (i + 2)))] rfl ?_
  refine v_w (xW S u0 T1 v1 K u2 tb tl ni ns ne nk nv wi si nu (f_12 S fn (xs (i + 1)) (xs (i + 2))) kp ++ mX (rowOf S) (f_12 S fn (xs (i + 1)) (xs (i + 2))) o1 t1 b1 tb tl so be te wo va gd wi si nu le im bf kp) (by rw [mW_cl]) ?_
  refine v_icmp_eq (pc := 626) 1291 g dL_law_626 rfl (fun _ => ?_) (fun c => absurd rfl c)
  refine v_iinc (pc := 1291) _ _ g dL_law_1291 rfl rfl hp.nL.symm rfl ?_
  refine v_loE [some (.ref 3000), some (.ref 0), some (.ref 39), some (.int (nI (i + 6)))] (by show [_, _, _, some (Value.int (nI i + nI 6))] = _; rw [nI_add]; rfl) ?_
  refine v_goto (pc := 1294) 18 g dL_law_1294 rfl ?_
  exact ih _ _ _ _ _ _ _ _ _ _ _ _ _ _ _ _ _ _ _ _ _ _ _ _ _ _ _ _ _ _ (h)
set_option maxRecDepth 20000 in
set_option maxHeartbeats 2000000 in
theorem lc_13 {S : St} {u0 : Int32} {T : St} {u1 : Int32} {K : St} {u2 : Int32} {tb : Nat → Int32} {tl : Nat} {ni : Int32} {ns : Int32} {ne : Int32} {nk : Int32} {nv : Int32} {wi : Nat → Int32} {si : Nat → Int32} {nu : Nat → Int64} {fn : Nat → Int32} {kp : Int32} {of : Int32} {tr : Nat → Int32} {b1 : Nat → Int32} {so : Int32} {be : Int32} {te : Int32} {wo : Int64} {va : Int32} {gd : Int32} {le : Nat → Int64} {im : Nat → Int32} {bf : Nat → Int32} {X : VX} {L i : Nat} {xs : Nat → Int32} (g : VG X code RL 13) (hp : LawP L xs X) (hL : L ≤ 3072) (hi : i + 6 ≤ L) (h : LInv S K tb tl si im kp) (ih : Lp X (i + 6)) : V X 631 [some (.ref 3000), some (.ref 0), some (.ref 39), some (.int (nI i))] [] (xW S u0 T u1 K u2 tb tl ni ns ne nk nv wi si nu fn kp ++ mX (rowOf S) fn of tr b1 tb tl so be te wo va gd wi si nu le im bf kp) := by
  refine v_aload_n (pc := 631) 1 g dL_law_631 rfl rfl ?_
  refine v_aload_n (pc := 632) 0 g dL_law_632 rfl rfl ?_
  refine v_iload_n (pc := 633) 3 g dL_law_633 rfl rfl ?_
  refine v_iconst (pc := 634) (v := 1) g dL_law_634 (by decide) ?_
  refine v_iadd (pc := 635) g dL_law_635 ?_
  refine v_sld (pc := 636) (i + 1) g hp dL_law_636 (nI_add i 1) (by omega) hL ?_
  refine v_cV (pc := 637) g dL_law_637 lk_L_68 (Nat.le_of_ble_eq_true rfl) (Runs.left (c_X4_goes _ h.1.1) _ rfl (xW_cl _ _ _ _ _ _ _ _ _ _ _ _ _ _ _ _ _ _) rfl) rfl rfl rfl rfl (Nat.le_of_ble_eq_true rfl) (fun r1 w1 hq => ?_)
  obtain ⟨_, _, ⟨T1, v1, rfl, rfl⟩, -, rfl, rfl⟩ := hq
  refine v_stE [.int (r_13 S (xs (i + 1)))] rfl ?_
  refine v_w (xW S u0 T1 v1 K u2 tb tl ni ns ne nk nv wi si nu (f_13 S fn (xs (i + 1))) kp ++ mX (rowOf S) fn of tr b1 tb tl so be te wo va gd wi si nu le im bf kp) (by rw [xW_cl]) ?_
  refine v_aload_n (pc := 640) 2 g dL_law_640 rfl rfl ?_
  refine v_aload_n (pc := 641) 0 g dL_law_641 rfl rfl ?_
  refine v_iload_n (pc := 642) 3 g dL_law_642 rfl rfl ?_
  refine v_iconst (pc := 643) (v := 1) g dL_law_643 (by decide) ?_
  refine v_iadd (pc := 644) g dL_law_644 ?_
  refine v_sld (pc := 645) (i + 1) g hp dL_law_645 (nI_add i 1) (by omega) hL ?_
  refine v_cV (pc := 646) g dL_law_646 lk_L_71 (Nat.le_of_ble_eq_true rfl) (Runs.right (c_X5_goes S _ h.1.1) _ rfl rfl (mW_cl _ _ _ _ _ _ _ _ _ _ _ _ _ _ _ _ _ _ _ _) rfl) rfl rfl rfl rfl (Nat.le_of_ble_eq_true rfl) (fun r1 w1 hq => ?_)
  obtain ⟨_, _, ⟨o1, t1, rfl, rfl⟩, -, rfl, rfl⟩ := hq
  refine v_stE [.int (r_13 S (xs (i + 1))), .int (r_13 S (xs (i + 1)))] rfl ?_
  refine v_w (xW S u0 T1 v1 K u2 tb tl ni ns ne nk nv wi si nu (f_13 S fn (xs (i + 1))) kp ++ mX (rowOf S) (f_13 S fn (xs (i + 1))) o1 t1 b1 tb tl so be te wo va gd wi si nu le im bf kp) (by rw [mW_cl]) ?_
  refine v_icmp_eq (pc := 649) 1291 g dL_law_649 rfl (fun _ => ?_) (fun c => absurd rfl c)
  refine v_iinc (pc := 1291) _ _ g dL_law_1291 rfl rfl hp.nL.symm rfl ?_
  refine v_loE [some (.ref 3000), some (.ref 0), some (.ref 39), some (.int (nI (i + 6)))] (by show [_, _, _, some (Value.int (nI i + nI 6))] = _; rw [nI_add]; rfl) ?_
  refine v_goto (pc := 1294) 18 g dL_law_1294 rfl ?_
  exact ih _ _ _ _ _ _ _ _ _ _ _ _ _ _ _ _ _ _ _ _ _ _ _ _ _ _ _ _ _ _ (h)
set_option maxRecDepth 20000 in
set_option maxHeartbeats 2000000 in
theorem lc_14 {S : St} {u0 : Int32} {T : St} {u1 : Int32} {K : St} {u2 : Int32} {tb : Nat → Int32} {tl : Nat} {ni : Int32} {ns : Int32} {ne : Int32} {nk : Int32} {nv : Int32} {wi : Nat → Int32} {si : Nat → Int32} {nu : Nat → Int64} {fn : Nat → Int32} {kp : Int32} {of : Int32} {tr : Nat → Int32} {b1 : Nat → Int32} {so : Int32} {be : Int32} {te : Int32} {wo : Int64} {va : Int32} {gd : Int32} {le : Nat → Int64} {im : Nat → Int32} {bf : Nat → Int32} {X : VX} {L i : Nat} {xs : Nat → Int32} (g : VG X code RL 13) (hp : LawP L xs X) (hL : L ≤ 3072) (hi : i + 6 ≤ L) (h : LInv S K tb tl si im kp) (ih : Lp X (i + 6)) : V X 654 [some (.ref 3000), some (.ref 0), some (.ref 39), some (.int (nI i))] [] (xW S u0 T u1 K u2 tb tl ni ns ne nk nv wi si nu fn kp ++ mX (rowOf S) fn of tr b1 tb tl so be te wo va gd wi si nu le im bf kp) := by
  refine v_aload_n (pc := 654) 1 g dL_law_654 rfl rfl ?_
  refine v_cV (pc := 655) g dL_law_655 lk_L_72 (Nat.le_of_ble_eq_true rfl) (Runs.left (c_X4_well h.1.1) _ rfl (xW_cl _ _ _ _ _ _ _ _ _ _ _ _ _ _ _ _ _ _) rfl) rfl rfl rfl rfl (Nat.le_of_ble_eq_true rfl) (fun r1 w1 hq => ?_)
  obtain ⟨_, _, ⟨T1, v1, rfl, rfl⟩, -, rfl, rfl⟩ := hq
  refine v_stE [.int (oI (a_14 S))] rfl ?_
  refine v_w (xW S u0 T1 v1 K u2 tb tl ni ns ne nk nv wi si nu (oF (a_14 S) fn) kp ++ mX (rowOf S) fn of tr b1 tb tl so be te wo va gd wi si nu le im bf kp) (by rw [xW_cl]) ?_
  refine v_aload_n (pc := 658) 2 g dL_law_658 rfl rfl ?_
  refine v_cV (pc := 659) g dL_law_659 lk_L_76 (Nat.le_of_ble_eq_true rfl) (Runs.right (c_X5_well S h.1.1) _ rfl rfl (mW_cl _ _ _ _ _ _ _ _ _ _ _ _ _ _ _ _ _ _ _ _) rfl) rfl rfl rfl rfl (Nat.le_of_ble_eq_true rfl) (fun r1 w1 hq => ?_)
  obtain ⟨_, _, ⟨o1, t1, rfl, rfl⟩, -, rfl, rfl⟩ := hq
  refine v_stE [.int (oI (a_14 S)), .int (oI (a_14 S))] rfl ?_
  refine v_w (xW S u0 T1 v1 K u2 tb tl ni ns ne nk nv wi si nu (oF (a_14 S) fn) kp ++ mX (rowOf S) (oF (a_14 S) fn) o1 t1 b1 tb tl so be te wo va gd wi si nu le im bf kp) (by rw [mW_cl]) ?_
  refine v_icmp_eq (pc := 662) 1291 g dL_law_662 rfl (fun _ => ?_) (fun c => absurd rfl c)
  refine v_iinc (pc := 1291) _ _ g dL_law_1291 rfl rfl hp.nL.symm rfl ?_
  refine v_loE [some (.ref 3000), some (.ref 0), some (.ref 39), some (.int (nI (i + 6)))] (by show [_, _, _, some (Value.int (nI i + nI 6))] = _; rw [nI_add]; rfl) ?_
  refine v_goto (pc := 1294) 18 g dL_law_1294 rfl ?_
  exact ih _ _ _ _ _ _ _ _ _ _ _ _ _ _ _ _ _ _ _ _ _ _ _ _ _ _ _ _ _ _ (h)
set_option maxRecDepth 20000 in
set_option maxHeartbeats 2000000 in
theorem lc_15 {S : St} {u0 : Int32} {T : St} {u1 : Int32} {K : St} {u2 : Int32} {tb : Nat → Int32} {tl : Nat} {ni : Int32} {ns : Int32} {ne : Int32} {nk : Int32} {nv : Int32} {wi : Nat → Int32} {si : Nat → Int32} {nu : Nat → Int64} {fn : Nat → Int32} {kp : Int32} {of : Int32} {tr : Nat → Int32} {b1 : Nat → Int32} {so : Int32} {be : Int32} {te : Int32} {wo : Int64} {va : Int32} {gd : Int32} {le : Nat → Int64} {im : Nat → Int32} {bf : Nat → Int32} {X : VX} {L i : Nat} {xs : Nat → Int32} (g : VG X code RL 13) (hp : LawP L xs X) (hL : L ≤ 3072) (hi : i + 6 ≤ L) (h : LInv S K tb tl si im kp) (ih : Lp X (i + 6)) : V X 667 [some (.ref 3000), some (.ref 0), some (.ref 39), some (.int (nI i))] [] (xW S u0 T u1 K u2 tb tl ni ns ne nk nv wi si nu fn kp ++ mX (rowOf S) fn of tr b1 tb tl so be te wo va gd wi si nu le im bf kp) := by
  refine v_aload_n (pc := 667) 1 g dL_law_667 rfl rfl ?_
  refine v_aload_n (pc := 668) 0 g dL_law_668 rfl rfl ?_
  refine v_iload_n (pc := 669) 3 g dL_law_669 rfl rfl ?_
  refine v_iconst (pc := 670) (v := 1) g dL_law_670 (by decide) ?_
  refine v_iadd (pc := 671) g dL_law_671 ?_
  refine v_sld (pc := 672) (i + 1) g hp dL_law_672 (nI_add i 1) (by omega) hL ?_
  refine v_cV (pc := 673) g dL_law_673 lk_L_77 (Nat.le_of_ble_eq_true rfl) (Runs.left (c_X4_feather _ h.1.1) _ rfl (xW_cl _ _ _ _ _ _ _ _ _ _ _ _ _ _ _ _ _ _) rfl) rfl rfl rfl rfl (Nat.le_of_ble_eq_true rfl) (fun r1 w1 hq => ?_)
  obtain ⟨_, _, ⟨T1, v1, rfl, rfl⟩, -, rfl, rfl⟩ := hq
  refine v_stE [.int (r_15 S (xs (i + 1)))] rfl ?_
  refine v_w (xW S u0 T1 v1 K u2 tb tl ni ns ne nk nv wi si nu (f_15 S fn (xs (i + 1))) kp ++ mX (rowOf S) fn of tr b1 tb tl so be te wo va gd wi si nu le im bf kp) (by rw [xW_cl]) ?_
  refine v_aload_n (pc := 676) 2 g dL_law_676 rfl rfl ?_
  refine v_aload_n (pc := 677) 0 g dL_law_677 rfl rfl ?_
  refine v_iload_n (pc := 678) 3 g dL_law_678 rfl rfl ?_
  refine v_iconst (pc := 679) (v := 1) g dL_law_679 (by decide) ?_
  refine v_iadd (pc := 680) g dL_law_680 ?_
  refine v_sld (pc := 681) (i + 1) g hp dL_law_681 (nI_add i 1) (by omega) hL ?_
  refine v_cV (pc := 682) g dL_law_682 lk_L_80 (Nat.le_of_ble_eq_true rfl) (Runs.right (c_X5_feather S _ h.1.1) _ rfl rfl (mW_cl _ _ _ _ _ _ _ _ _ _ _ _ _ _ _ _ _ _ _ _) rfl) rfl rfl rfl rfl (Nat.le_of_ble_eq_true rfl) (fun r1 w1 hq => ?_)
  obtain ⟨_, _, ⟨o1, t1, rfl, rfl⟩, -, rfl, rfl⟩ := hq
  refine v_stE [.int (r_15 S (xs (i + 1))), .int (r_15 S (xs (i + 1)))] rfl ?_
  refine v_w (xW S u0 T1 v1 K u2 tb tl ni ns ne nk nv wi si nu (f_15 S fn (xs (i + 1))) kp ++ mX (rowOf S) (f_15 S fn (xs (i + 1))) o1 t1 b1 tb tl so be te wo va gd wi si nu le im bf kp) (by rw [mW_cl]) ?_
  refine v_icmp_eq (pc := 685) 1291 g dL_law_685 rfl (fun _ => ?_) (fun c => absurd rfl c)
  refine v_iinc (pc := 1291) _ _ g dL_law_1291 rfl rfl hp.nL.symm rfl ?_
  refine v_loE [some (.ref 3000), some (.ref 0), some (.ref 39), some (.int (nI (i + 6)))] (by show [_, _, _, some (Value.int (nI i + nI 6))] = _; rw [nI_add]; rfl) ?_
  refine v_goto (pc := 1294) 18 g dL_law_1294 rfl ?_
  exact ih _ _ _ _ _ _ _ _ _ _ _ _ _ _ _ _ _ _ _ _ _ _ _ _ _ _ _ _ _ _ (h)
set_option maxRecDepth 20000 in
set_option maxHeartbeats 2000000 in
theorem lc_16 {S : St} {u0 : Int32} {T : St} {u1 : Int32} {K : St} {u2 : Int32} {tb : Nat → Int32} {tl : Nat} {ni : Int32} {ns : Int32} {ne : Int32} {nk : Int32} {nv : Int32} {wi : Nat → Int32} {si : Nat → Int32} {nu : Nat → Int64} {fn : Nat → Int32} {kp : Int32} {of : Int32} {tr : Nat → Int32} {b1 : Nat → Int32} {so : Int32} {be : Int32} {te : Int32} {wo : Int64} {va : Int32} {gd : Int32} {le : Nat → Int64} {im : Nat → Int32} {bf : Nat → Int32} {X : VX} {L i : Nat} {xs : Nat → Int32} (g : VG X code RL 13) (hp : LawP L xs X) (hL : L ≤ 3072) (hi : i + 6 ≤ L) (h : LInv S K tb tl si im kp) (ih : Lp X (i + 6)) : V X 690 [some (.ref 3000), some (.ref 0), some (.ref 39), some (.int (nI i))] [] (xW S u0 T u1 K u2 tb tl ni ns ne nk nv wi si nu fn kp ++ mX (rowOf S) fn of tr b1 tb tl so be te wo va gd wi si nu le im bf kp) := by
  refine v_aload_n (pc := 690) 1 g dL_law_690 rfl rfl ?_
  refine v_aload_n (pc := 691) 0 g dL_law_691 rfl rfl ?_
  refine v_iload_n (pc := 692) 3 g dL_law_692 rfl rfl ?_
  refine v_iconst (pc := 693) (v := 1) g dL_law_693 (by decide) ?_
  refine v_iadd (pc := 694) g dL_law_694 ?_
  refine v_sld (pc := 695) (i + 1) g hp dL_law_695 (nI_add i 1) (by omega) hL ?_
  refine v_aload_n (pc := 696) 0 g dL_law_696 rfl rfl ?_
  refine v_iload_n (pc := 697) 3 g dL_law_697 rfl rfl ?_
  refine v_iconst (pc := 698) (v := 2) g dL_law_698 (by decide) ?_
  refine v_iadd (pc := 699) g dL_law_699 ?_
  refine v_sld (pc := 700) (i + 2) g hp dL_law_700 (nI_add i 2) (by omega) hL ?_
  refine v_cV (pc := 701) g dL_law_701 lk_L_81 (Nat.le_of_ble_eq_true rfl) (Runs.left (c_X4_seat _ _ h.1.1) _ rfl (xW_cl _ _ _ _ _ _ _ _ _ _ _ _ _ _ _ _ _ _) rfl) rfl rfl rfl rfl (Nat.le_of_ble_eq_true rfl) (fun r1 w1 hq => ?_)
  obtain ⟨_, _, ⟨T1, v1, rfl, rfl⟩, -, rfl, rfl⟩ := hq
  refine v_stE [.int (r_16 S (xs (i + 1)) (xs (i + 2)))] rfl ?_
  refine v_w (xW S u0 T1 v1 K u2 tb tl ni ns ne nk nv wi si nu (fdI (C16 S (xs (i + 1)) (xs (i + 2))) fn 0) kp ++ mX (rowOf S) fn of tr b1 tb tl so be te wo va gd wi si nu le im bf kp) (by rw [xW_cl]) ?_
  refine v_aload_n (pc := 704) 2 g dL_law_704 rfl rfl ?_
  refine v_aload_n (pc := 705) 0 g dL_law_705 rfl rfl ?_
  refine v_iload_n (pc := 706) 3 g dL_law_706 rfl rfl ?_
  refine v_iconst (pc := 707) (v := 1) g dL_law_707 (by decide) ?_
  refine v_iadd (pc := 708) g dL_law_708 ?_
  refine v_sld (pc := 709) (i + 1) g hp dL_law_709 (nI_add i 1) (by omega) hL ?_
  refine v_aload_n (pc := 710) 0 g dL_law_710 rfl rfl ?_
  refine v_iload_n (pc := 711) 3 g dL_law_711 rfl rfl ?_
  refine v_iconst (pc := 712) (v := 2) g dL_law_712 (by decide) ?_
  refine v_iadd (pc := 713) g dL_law_713 ?_
  refine v_sld (pc := 714) (i + 2) g hp dL_law_714 (nI_add i 2) (by omega) hL ?_
  refine v_cV (pc := 715) g dL_law_715 lk_L_84 (Nat.le_of_ble_eq_true rfl) (Runs.right (c_X5_seat S _ _ h.1.1) _ rfl rfl (mW_cl _ _ _ _ _ _ _ _ _ _ _ _ _ _ _ _ _ _ _ _) rfl) rfl rfl rfl rfl (Nat.le_of_ble_eq_true rfl) (fun r1 w1 hq => ?_)
  obtain ⟨_, _, ⟨o1, t1, rfl, rfl⟩, -, rfl, rfl⟩ := hq
  refine v_stE [.int (r_16 S (xs (i + 1)) (xs (i + 2))), .int (r_16 S (xs (i + 1)) (xs (i + 2)))] rfl ?_
  refine v_w (xW S u0 T1 v1 K u2 tb tl ni ns ne nk nv wi si nu (fdI (C16 S (xs (i + 1)) (xs (i + 2))) fn 0) kp ++ mX (rowOf S) (fdI (C16 S (xs (i + 1)) (xs (i + 2))) fn 0) o1 t1 b1 tb tl so be te wo va gd wi si nu le im bf kp) (by rw [mW_cl]) ?_
  refine v_icmp_eq (pc := 718) 1291 g dL_law_718 rfl (fun _ => ?_) (fun c => absurd rfl c)
  refine v_iinc (pc := 1291) _ _ g dL_law_1291 rfl rfl hp.nL.symm rfl ?_
  refine v_loE [some (.ref 3000), some (.ref 0), some (.ref 39), some (.int (nI (i + 6)))] (by show [_, _, _, some (Value.int (nI i + nI 6))] = _; rw [nI_add]; rfl) ?_
  refine v_goto (pc := 1294) 18 g dL_law_1294 rfl ?_
  exact ih _ _ _ _ _ _ _ _ _ _ _ _ _ _ _ _ _ _ _ _ _ _ _ _ _ _ _ _ _ _ (h)
set_option maxRecDepth 20000 in
set_option maxHeartbeats 2000000 in
theorem lc_17 {S : St} {u0 : Int32} {T : St} {u1 : Int32} {K : St} {u2 : Int32} {tb : Nat → Int32} {tl : Nat} {ni : Int32} {ns : Int32} {ne : Int32} {nk : Int32} {nv : Int32} {wi : Nat → Int32} {si : Nat → Int32} {nu : Nat → Int64} {fn : Nat → Int32} {kp : Int32} {of : Int32} {tr : Nat → Int32} {b1 : Nat → Int32} {so : Int32} {be : Int32} {te : Int32} {wo : Int64} {va : Int32} {gd : Int32} {le : Nat → Int64} {im : Nat → Int32} {bf : Nat → Int32} {X : VX} {L i : Nat} {xs : Nat → Int32} (g : VG X code RL 13) (hp : LawP L xs X) (hL : L ≤ 3072) (hi : i + 6 ≤ L) (h : LInv S K tb tl si im kp) (ih : Lp X (i + 6)) : V X 723 [some (.ref 3000), some (.ref 0), some (.ref 39), some (.int (nI i))] [] (xW S u0 T u1 K u2 tb tl ni ns ne nk nv wi si nu fn kp ++ mX (rowOf S) fn of tr b1 tb tl so be te wo va gd wi si nu le im bf kp) := by
  refine v_aload_n (pc := 723) 1 g dL_law_723 rfl rfl ?_
  refine v_aload_n (pc := 724) 0 g dL_law_724 rfl rfl ?_
  refine v_iload_n (pc := 725) 3 g dL_law_725 rfl rfl ?_
  refine v_iconst (pc := 726) (v := 1) g dL_law_726 (by decide) ?_
  refine v_iadd (pc := 727) g dL_law_727 ?_
  refine v_sld (pc := 728) (i + 1) g hp dL_law_728 (nI_add i 1) (by omega) hL ?_
  refine v_aload_n (pc := 729) 0 g dL_law_729 rfl rfl ?_
  refine v_iload_n (pc := 730) 3 g dL_law_730 rfl rfl ?_
  refine v_iconst (pc := 731) (v := 2) g dL_law_731 (by decide) ?_
  refine v_iadd (pc := 732) g dL_law_732 ?_
  refine v_sld (pc := 733) (i + 2) g hp dL_law_733 (nI_add i 2) (by omega) hL ?_
  refine v_cV (pc := 734) g dL_law_734 lk_L_85 (Nat.le_of_ble_eq_true rfl) (Runs.left (c_X4_kind _ _ h.1.1) _ rfl (xW_cl _ _ _ _ _ _ _ _ _ _ _ _ _ _ _ _ _ _) rfl) rfl rfl rfl rfl (Nat.le_of_ble_eq_true rfl) (fun r1 w1 hq => ?_)
  obtain ⟨_, _, ⟨T1, v1, rfl, rfl⟩, -, rfl, rfl⟩ := hq
  refine v_stE [.int (r_17 S (xs (i + 1)) (xs (i + 2)))] rfl ?_
  refine v_w (xW S u0 T1 v1 K u2 tb tl ni ns ne nk nv wi si nu (fdI (C16 S (xs (i + 1)) (xs (i + 2))) fn 0) kp ++ mX (rowOf S) fn of tr b1 tb tl so be te wo va gd wi si nu le im bf kp) (by rw [xW_cl]) ?_
  refine v_aload_n (pc := 737) 2 g dL_law_737 rfl rfl ?_
  refine v_aload_n (pc := 738) 0 g dL_law_738 rfl rfl ?_
  refine v_iload_n (pc := 739) 3 g dL_law_739 rfl rfl ?_
  refine v_iconst (pc := 740) (v := 1) g dL_law_740 (by decide) ?_
  refine v_iadd (pc := 741) g dL_law_741 ?_
  refine v_sld (pc := 742) (i + 1) g hp dL_law_742 (nI_add i 1) (by omega) hL ?_
  refine v_aload_n (pc := 743) 0 g dL_law_743 rfl rfl ?_
  refine v_iload_n (pc := 744) 3 g dL_law_744 rfl rfl ?_
  refine v_iconst (pc := 745) (v := 2) g dL_law_745 (by decide) ?_
  refine v_iadd (pc := 746) g dL_law_746 ?_
  refine v_sld (pc := 747) (i + 2) g hp dL_law_747 (nI_add i 2) (by omega) hL ?_
  refine v_cV (pc := 748) g dL_law_748 lk_L_88 (Nat.le_of_ble_eq_true rfl) (Runs.right (c_X5_kind S _ _ h.1.1) _ rfl rfl (mW_cl _ _ _ _ _ _ _ _ _ _ _ _ _ _ _ _ _ _ _ _) rfl) rfl rfl rfl rfl (Nat.le_of_ble_eq_true rfl) (fun r1 w1 hq => ?_)
  obtain ⟨_, _, ⟨o1, t1, rfl, rfl⟩, -, rfl, rfl⟩ := hq
  refine v_stE [.int (r_17 S (xs (i + 1)) (xs (i + 2))), .int (r_17 S (xs (i + 1)) (xs (i + 2)))] rfl ?_
  refine v_w (xW S u0 T1 v1 K u2 tb tl ni ns ne nk nv wi si nu (fdI (C16 S (xs (i + 1)) (xs (i + 2))) fn 0) kp ++ mX (rowOf S) (fdI (C16 S (xs (i + 1)) (xs (i + 2))) fn 0) o1 t1 b1 tb tl so be te wo va gd wi si nu le im bf kp) (by rw [mW_cl]) ?_
  refine v_icmp_eq (pc := 751) 1291 g dL_law_751 rfl (fun _ => ?_) (fun c => absurd rfl c)
  refine v_iinc (pc := 1291) _ _ g dL_law_1291 rfl rfl hp.nL.symm rfl ?_
  refine v_loE [some (.ref 3000), some (.ref 0), some (.ref 39), some (.int (nI (i + 6)))] (by show [_, _, _, some (Value.int (nI i + nI 6))] = _; rw [nI_add]; rfl) ?_
  refine v_goto (pc := 1294) 18 g dL_law_1294 rfl ?_
  exact ih _ _ _ _ _ _ _ _ _ _ _ _ _ _ _ _ _ _ _ _ _ _ _ _ _ _ _ _ _ _ (h)
set_option maxRecDepth 20000 in
set_option maxHeartbeats 2000000 in
theorem lc_18 {S : St} {u0 : Int32} {T : St} {u1 : Int32} {K : St} {u2 : Int32} {tb : Nat → Int32} {tl : Nat} {ni : Int32} {ns : Int32} {ne : Int32} {nk : Int32} {nv : Int32} {wi : Nat → Int32} {si : Nat → Int32} {nu : Nat → Int64} {fn : Nat → Int32} {kp : Int32} {of : Int32} {tr : Nat → Int32} {b1 : Nat → Int32} {so : Int32} {be : Int32} {te : Int32} {wo : Int64} {va : Int32} {gd : Int32} {le : Nat → Int64} {im : Nat → Int32} {bf : Nat → Int32} {X : VX} {L i : Nat} {xs : Nat → Int32} (g : VG X code RL 13) (hp : LawP L xs X) (hL : L ≤ 3072) (hi : i + 6 ≤ L) (h : LInv S K tb tl si im kp) (ih : Lp X (i + 6)) : V X 756 [some (.ref 3000), some (.ref 0), some (.ref 39), some (.int (nI i))] [] (xW S u0 T u1 K u2 tb tl ni ns ne nk nv wi si nu fn kp ++ mX (rowOf S) fn of tr b1 tb tl so be te wo va gd wi si nu le im bf kp) := by
  refine v_aload_n (pc := 756) 1 g dL_law_756 rfl rfl ?_
  refine v_aload_n (pc := 757) 0 g dL_law_757 rfl rfl ?_
  refine v_iload_n (pc := 758) 3 g dL_law_758 rfl rfl ?_
  refine v_iconst (pc := 759) (v := 1) g dL_law_759 (by decide) ?_
  refine v_iadd (pc := 760) g dL_law_760 ?_
  refine v_sld (pc := 761) (i + 1) g hp dL_law_761 (nI_add i 1) (by omega) hL ?_
  refine v_aload_n (pc := 762) 0 g dL_law_762 rfl rfl ?_
  refine v_iload_n (pc := 763) 3 g dL_law_763 rfl rfl ?_
  refine v_iconst (pc := 764) (v := 2) g dL_law_764 (by decide) ?_
  refine v_iadd (pc := 765) g dL_law_765 ?_
  refine v_sld (pc := 766) (i + 2) g hp dL_law_766 (nI_add i 2) (by omega) hL ?_
  refine v_cV (pc := 767) g dL_law_767 lk_L_89 (Nat.le_of_ble_eq_true rfl) (Runs.left (c_X4_driest _ _ h.1.1) _ rfl (xW_cl _ _ _ _ _ _ _ _ _ _ _ _ _ _ _ _ _ _) rfl) rfl rfl rfl rfl (Nat.le_of_ble_eq_true rfl) (fun r1 w1 hq => ?_)
  obtain ⟨_, _, ⟨T1, v1, rfl, rfl⟩, -, rfl, rfl⟩ := hq
  refine v_stE [.int (r_18 S (xs (i + 1)) (xs (i + 2)))] rfl ?_
  refine v_w (xW S u0 T1 v1 K u2 tb tl ni ns ne nk nv wi si nu (f_18 S fn (xs (i + 1)) (xs (i + 2))) kp ++ mX (rowOf S) fn of tr b1 tb tl so be te wo va gd wi si nu le im bf kp) (by rw [xW_cl]) ?_
  refine v_aload_n (pc := 770) 2 g dL_law_770 rfl rfl ?_
  refine v_aload_n (pc := 771) 0 g dL_law_771 rfl rfl ?_
  refine v_iload_n (pc := 772) 3 g dL_law_772 rfl rfl ?_
  refine v_iconst (pc := 773) (v := 1) g dL_law_773 (by decide) ?_
  refine v_iadd (pc := 774) g dL_law_774 ?_
  refine v_sld (pc := 775) (i + 1) g hp dL_law_775 (nI_add i 1) (by omega) hL ?_
  refine v_aload_n (pc := 776) 0 g dL_law_776 rfl rfl ?_
  refine v_iload_n (pc := 777) 3 g dL_law_777 rfl rfl ?_
  refine v_iconst (pc := 778) (v := 2) g dL_law_778 (by decide) ?_
  refine v_iadd (pc := 779) g dL_law_779 ?_
  refine v_sld (pc := 780) (i + 2) g hp dL_law_780 (nI_add i 2) (by omega) hL ?_
  refine v_cV (pc := 781) g dL_law_781 lk_L_92 (Nat.le_of_ble_eq_true rfl) (Runs.right (c_X5_driest S _ _ h.1.1) _ rfl rfl (mW_cl _ _ _ _ _ _ _ _ _ _ _ _ _ _ _ _ _ _ _ _) rfl) rfl rfl rfl rfl (Nat.le_of_ble_eq_true rfl) (fun r1 w1 hq => ?_)
  obtain ⟨_, _, ⟨o1, t1, rfl, rfl⟩, -, rfl, rfl⟩ := hq
  refine v_stE [.int (r_18 S (xs (i + 1)) (xs (i + 2))), .int (r_18 S (xs (i + 1)) (xs (i + 2)))] rfl ?_
  refine v_w (xW S u0 T1 v1 K u2 tb tl ni ns ne nk nv wi si nu (f_18 S fn (xs (i + 1)) (xs (i + 2))) kp ++ mX (rowOf S) (f_18 S fn (xs (i + 1)) (xs (i + 2))) o1 t1 b1 tb tl so be te wo va gd wi si nu le im bf kp) (by rw [mW_cl]) ?_
  refine v_icmp_eq (pc := 784) 1291 g dL_law_784 rfl (fun _ => ?_) (fun c => absurd rfl c)
  refine v_iinc (pc := 1291) _ _ g dL_law_1291 rfl rfl hp.nL.symm rfl ?_
  refine v_loE [some (.ref 3000), some (.ref 0), some (.ref 39), some (.int (nI (i + 6)))] (by show [_, _, _, some (Value.int (nI i + nI 6))] = _; rw [nI_add]; rfl) ?_
  refine v_goto (pc := 1294) 18 g dL_law_1294 rfl ?_
  exact ih _ _ _ _ _ _ _ _ _ _ _ _ _ _ _ _ _ _ _ _ _ _ _ _ _ _ _ _ _ _ (h)
set_option maxRecDepth 20000 in
set_option maxHeartbeats 2000000 in
theorem lc_19 {S : St} {u0 : Int32} {T : St} {u1 : Int32} {K : St} {u2 : Int32} {tb : Nat → Int32} {tl : Nat} {ni : Int32} {ns : Int32} {ne : Int32} {nk : Int32} {nv : Int32} {wi : Nat → Int32} {si : Nat → Int32} {nu : Nat → Int64} {fn : Nat → Int32} {kp : Int32} {of : Int32} {tr : Nat → Int32} {b1 : Nat → Int32} {so : Int32} {be : Int32} {te : Int32} {wo : Int64} {va : Int32} {gd : Int32} {le : Nat → Int64} {im : Nat → Int32} {bf : Nat → Int32} {X : VX} {L i : Nat} {xs : Nat → Int32} (g : VG X code RL 13) (hp : LawP L xs X) (hL : L ≤ 3072) (hi : i + 6 ≤ L) (h : LInv S K tb tl si im kp) (ih : Lp X (i + 6)) : V X 789 [some (.ref 3000), some (.ref 0), some (.ref 39), some (.int (nI i))] [] (xW S u0 T u1 K u2 tb tl ni ns ne nk nv wi si nu fn kp ++ mX (rowOf S) fn of tr b1 tb tl so be te wo va gd wi si nu le im bf kp) := by
  refine v_aload_n (pc := 789) 1 g dL_law_789 rfl rfl ?_
  refine v_aload_n (pc := 790) 0 g dL_law_790 rfl rfl ?_
  refine v_iload_n (pc := 791) 3 g dL_law_791 rfl rfl ?_
  refine v_iconst (pc := 792) (v := 1) g dL_law_792 (by decide) ?_
  refine v_iadd (pc := 793) g dL_law_793 ?_
  refine v_sld (pc := 794) (i + 1) g hp dL_law_794 (nI_add i 1) (by omega) hL ?_
  refine v_aload_n (pc := 795) 0 g dL_law_795 rfl rfl ?_
  refine v_iload_n (pc := 796) 3 g dL_law_796 rfl rfl ?_
  refine v_iconst (pc := 797) (v := 2) g dL_law_797 (by decide) ?_
  refine v_iadd (pc := 798) g dL_law_798 ?_
  refine v_sld (pc := 799) (i + 2) g hp dL_law_799 (nI_add i 2) (by omega) hL ?_
  refine v_aload_n (pc := 800) 0 g dL_law_800 rfl rfl ?_
  refine v_iload_n (pc := 801) 3 g dL_law_801 rfl rfl ?_
  refine v_iconst (pc := 802) (v := 3) g dL_law_802 (by decide) ?_
  refine v_iadd (pc := 803) g dL_law_803 ?_
  refine v_sld (pc := 804) (i + 3) g hp dL_law_804 (nI_add i 3) (by omega) hL ?_
  refine v_cV (pc := 805) g dL_law_805 lk_L_93 (Nat.le_of_ble_eq_true rfl) (Runs.left (c_X4_needs _ _ _ h.1.1) _ rfl (xW_cl _ _ _ _ _ _ _ _ _ _ _ _ _ _ _ _ _ _) rfl) rfl rfl rfl rfl (Nat.le_of_ble_eq_true rfl) (fun r1 w1 hq => ?_)
  obtain ⟨_, _, ⟨T1, v1, rfl, rfl⟩, -, rfl, rfl⟩ := hq
  refine v_stE [.int (r_19 S (xs (i + 1)) (xs (i + 2)) (xs (i + 3)))] rfl ?_
  refine v_w (xW S u0 T1 v1 K u2 tb tl ni ns ne nk nv wi si nu (f_19 S fn (xs (i + 1)) (xs (i + 2)) (xs (i + 3))) kp ++ mX (rowOf S) fn of tr b1 tb tl so be te wo va gd wi si nu le im bf kp) (by rw [xW_cl]) ?_
  refine v_aload_n (pc := 808) 2 g dL_law_808 rfl rfl ?_
  refine v_aload_n (pc := 809) 0 g dL_law_809 rfl rfl ?_
  refine v_iload_n (pc := 810) 3 g dL_law_810 rfl rfl ?_
  refine v_iconst (pc := 811) (v := 1) g dL_law_811 (by decide) ?_
  refine v_iadd (pc := 812) g dL_law_812 ?_
  refine v_sld (pc := 813) (i + 1) g hp dL_law_813 (nI_add i 1) (by omega) hL ?_
  refine v_aload_n (pc := 814) 0 g dL_law_814 rfl rfl ?_
  refine v_iload_n (pc := 815) 3 g dL_law_815 rfl rfl ?_
  refine v_iconst (pc := 816) (v := 2) g dL_law_816 (by decide) ?_
  refine v_iadd (pc := 817) g dL_law_817 ?_
  refine v_sld (pc := 818) (i + 2) g hp dL_law_818 (nI_add i 2) (by omega) hL ?_
  refine v_aload_n (pc := 819) 0 g dL_law_819 rfl rfl ?_
  refine v_iload_n (pc := 820) 3 g dL_law_820 rfl rfl ?_
  refine v_iconst (pc := 821) (v := 3) g dL_law_821 (by decide) ?_
  refine v_iadd (pc := 822) g dL_law_822 ?_
  refine v_sld (pc := 823) (i + 3) g hp dL_law_823 (nI_add i 3) (by omega) hL ?_
  refine v_cV (pc := 824) g dL_law_824 lk_L_96 (Nat.le_of_ble_eq_true rfl) (Runs.right (c_X5_needs S _ _ _ h.1.1) _ rfl rfl (mW_cl _ _ _ _ _ _ _ _ _ _ _ _ _ _ _ _ _ _ _ _) rfl) rfl rfl rfl rfl (Nat.le_of_ble_eq_true rfl) (fun r1 w1 hq => ?_)
  obtain ⟨_, _, ⟨o1, t1, rfl, rfl⟩, -, rfl, rfl⟩ := hq
  refine v_stE [.int (r_19 S (xs (i + 1)) (xs (i + 2)) (xs (i + 3))), .int (r_19 S (xs (i + 1)) (xs (i + 2)) (xs (i + 3)))] rfl ?_
  refine v_w (xW S u0 T1 v1 K u2 tb tl ni ns ne nk nv wi si nu (f_19 S fn (xs (i + 1)) (xs (i + 2)) (xs (i + 3))) kp ++ mX (rowOf S) (f_19 S fn (xs (i + 1)) (xs (i + 2)) (xs (i + 3))) o1 t1 b1 tb tl so be te wo va gd wi si nu le im bf kp) (by rw [mW_cl]) ?_
  refine v_icmp_eq (pc := 827) 1291 g dL_law_827 rfl (fun _ => ?_) (fun c => absurd rfl c)
  refine v_iinc (pc := 1291) _ _ g dL_law_1291 rfl rfl hp.nL.symm rfl ?_
  refine v_loE [some (.ref 3000), some (.ref 0), some (.ref 39), some (.int (nI (i + 6)))] (by show [_, _, _, some (Value.int (nI i + nI 6))] = _; rw [nI_add]; rfl) ?_
  refine v_goto (pc := 1294) 18 g dL_law_1294 rfl ?_
  exact ih _ _ _ _ _ _ _ _ _ _ _ _ _ _ _ _ _ _ _ _ _ _ _ _ _ _ _ _ _ _ (h)
set_option maxRecDepth 20000 in
set_option maxHeartbeats 2000000 in
theorem lc_20 {S : St} {u0 : Int32} {T : St} {u1 : Int32} {K : St} {u2 : Int32} {tb : Nat → Int32} {tl : Nat} {ni : Int32} {ns : Int32} {ne : Int32} {nk : Int32} {nv : Int32} {wi : Nat → Int32} {si : Nat → Int32} {nu : Nat → Int64} {fn : Nat → Int32} {kp : Int32} {of : Int32} {tr : Nat → Int32} {b1 : Nat → Int32} {so : Int32} {be : Int32} {te : Int32} {wo : Int64} {va : Int32} {gd : Int32} {le : Nat → Int64} {im : Nat → Int32} {bf : Nat → Int32} {X : VX} {L i : Nat} {xs : Nat → Int32} (g : VG X code RL 13) (hp : LawP L xs X) (hL : L ≤ 3072) (hi : i + 6 ≤ L) (h : LInv S K tb tl si im kp) (ih : Lp X (i + 6)) : V X 832 [some (.ref 3000), some (.ref 0), some (.ref 39), some (.int (nI i))] [] (xW S u0 T u1 K u2 tb tl ni ns ne nk nv wi si nu fn kp ++ mX (rowOf S) fn of tr b1 tb tl so be te wo va gd wi si nu le im bf kp) := by
  refine v_aload_n (pc := 832) 1 g dL_law_832 rfl rfl ?_
  refine v_aload_n (pc := 833) 0 g dL_law_833 rfl rfl ?_
  refine v_iload_n (pc := 834) 3 g dL_law_834 rfl rfl ?_
  refine v_iconst (pc := 835) (v := 1) g dL_law_835 (by decide) ?_
  refine v_iadd (pc := 836) g dL_law_836 ?_
  refine v_sld (pc := 837) (i + 1) g hp dL_law_837 (nI_add i 1) (by omega) hL ?_
  refine v_cV (pc := 838) g dL_law_838 lk_L_97 (Nat.le_of_ble_eq_true rfl) (Runs.left (c_X4_dear _ h.1.1) _ rfl (xW_cl _ _ _ _ _ _ _ _ _ _ _ _ _ _ _ _ _ _) rfl) rfl rfl rfl rfl (Nat.le_of_ble_eq_true rfl) (fun r1 w1 hq => ?_)
  obtain ⟨_, _, ⟨T1, v1, rfl, rfl⟩, -, rfl, rfl⟩ := hq
  refine v_stE [.int (r_20 S (xs (i + 1)))] rfl ?_
  refine v_w (xW S u0 T1 v1 K u2 tb tl ni ns ne nk nv wi si nu (f_15 S fn (xs (i + 1))) kp ++ mX (rowOf S) fn of tr b1 tb tl so be te wo va gd wi si nu le im bf kp) (by rw [xW_cl]) ?_
  refine v_aload_n (pc := 841) 2 g dL_law_841 rfl rfl ?_
  refine v_aload_n (pc := 842) 0 g dL_law_842 rfl rfl ?_
  refine v_iload_n (pc := 843) 3 g dL_law_843 rfl rfl ?_
  refine v_iconst (pc := 844) (v := 1) g dL_law_844 (by decide) ?_
  refine v_iadd (pc := 845) g dL_law_845 ?_
  refine v_sld (pc := 846) (i + 1) g hp dL_law_846 (nI_add i 1) (by omega) hL ?_
  refine v_cV (pc := 847) g dL_law_847 lk_L_100 (Nat.le_of_ble_eq_true rfl) (Runs.right (c_X5_dear S _ h.1.1) _ rfl rfl (mW_cl _ _ _ _ _ _ _ _ _ _ _ _ _ _ _ _ _ _ _ _) rfl) rfl rfl rfl rfl (Nat.le_of_ble_eq_true rfl) (fun r1 w1 hq => ?_)
  obtain ⟨_, _, ⟨o1, t1, rfl, rfl⟩, -, rfl, rfl⟩ := hq
  refine v_stE [.int (r_20 S (xs (i + 1))), .int (r_20 S (xs (i + 1)))] rfl ?_
  refine v_w (xW S u0 T1 v1 K u2 tb tl ni ns ne nk nv wi si nu (f_15 S fn (xs (i + 1))) kp ++ mX (rowOf S) (f_15 S fn (xs (i + 1))) o1 t1 b1 tb tl so be te wo va gd wi si nu le im bf kp) (by rw [mW_cl]) ?_
  refine v_icmp_eq (pc := 850) 1291 g dL_law_850 rfl (fun _ => ?_) (fun c => absurd rfl c)
  refine v_iinc (pc := 1291) _ _ g dL_law_1291 rfl rfl hp.nL.symm rfl ?_
  refine v_loE [some (.ref 3000), some (.ref 0), some (.ref 39), some (.int (nI (i + 6)))] (by show [_, _, _, some (Value.int (nI i + nI 6))] = _; rw [nI_add]; rfl) ?_
  refine v_goto (pc := 1294) 18 g dL_law_1294 rfl ?_
  exact ih _ _ _ _ _ _ _ _ _ _ _ _ _ _ _ _ _ _ _ _ _ _ _ _ _ _ _ _ _ _ (h)
set_option maxRecDepth 20000 in
set_option maxHeartbeats 2000000 in
theorem lc_21 {S : St} {u0 : Int32} {T : St} {u1 : Int32} {K : St} {u2 : Int32} {tb : Nat → Int32} {tl : Nat} {ni : Int32} {ns : Int32} {ne : Int32} {nk : Int32} {nv : Int32} {wi : Nat → Int32} {si : Nat → Int32} {nu : Nat → Int64} {fn : Nat → Int32} {kp : Int32} {of : Int32} {tr : Nat → Int32} {b1 : Nat → Int32} {so : Int32} {be : Int32} {te : Int32} {wo : Int64} {va : Int32} {gd : Int32} {le : Nat → Int64} {im : Nat → Int32} {bf : Nat → Int32} {X : VX} {L i : Nat} {xs : Nat → Int32} (g : VG X code RL 13) (hp : LawP L xs X) (hL : L ≤ 3072) (hi : i + 6 ≤ L) (h : LInv S K tb tl si im kp) (ih : Lp X (i + 6)) : V X 855 [some (.ref 3000), some (.ref 0), some (.ref 39), some (.int (nI i))] [] (xW S u0 T u1 K u2 tb tl ni ns ne nk nv wi si nu fn kp ++ mX (rowOf S) fn of tr b1 tb tl so be te wo va gd wi si nu le im bf kp) := by
  refine v_aload_n (pc := 855) 1 g dL_law_855 rfl rfl ?_
  refine v_aload_n (pc := 856) 0 g dL_law_856 rfl rfl ?_
  refine v_iload_n (pc := 857) 3 g dL_law_857 rfl rfl ?_
  refine v_iconst (pc := 858) (v := 1) g dL_law_858 (by decide) ?_
  refine v_iadd (pc := 859) g dL_law_859 ?_
  refine v_sld (pc := 860) (i + 1) g hp dL_law_860 (nI_add i 1) (by omega) hL ?_
  refine v_cV (pc := 861) g dL_law_861 lk_L_101 (Nat.le_of_ble_eq_true rfl) (Runs.left (c_X4_open _ h.1.1) _ rfl (xW_cl _ _ _ _ _ _ _ _ _ _ _ _ _ _ _ _ _ _) rfl) rfl rfl rfl rfl (Nat.le_of_ble_eq_true rfl) (fun r1 w1 hq => ?_)
  obtain ⟨_, _, ⟨T1, v1, rfl, rfl⟩, -, rfl, rfl⟩ := hq
  refine v_stE [.int (r_21 S (xs (i + 1)))] rfl ?_
  refine v_w (xW S u0 T1 v1 K u2 tb tl ni ns ne nk nv wi si nu (fdI (inR (xs (i + 1)) 1 60) fn 0) kp ++ mX (rowOf S) fn of tr b1 tb tl so be te wo va gd wi si nu le im bf kp) (by rw [xW_cl]) ?_
  refine v_aload_n (pc := 864) 2 g dL_law_864 rfl rfl ?_
  refine v_aload_n (pc := 865) 0 g dL_law_865 rfl rfl ?_
  refine v_iload_n (pc := 866) 3 g dL_law_866 rfl rfl ?_
  refine v_iconst (pc := 867) (v := 1) g dL_law_867 (by decide) ?_
  refine v_iadd (pc := 868) g dL_law_868 ?_
  refine v_sld (pc := 869) (i + 1) g hp dL_law_869 (nI_add i 1) (by omega) hL ?_
  refine v_cV (pc := 870) g dL_law_870 lk_L_104 (Nat.le_of_ble_eq_true rfl) (Runs.right (c_X5_open S _ h.1.1) _ rfl rfl (mW_cl _ _ _ _ _ _ _ _ _ _ _ _ _ _ _ _ _ _ _ _) rfl) rfl rfl rfl rfl (Nat.le_of_ble_eq_true rfl) (fun r1 w1 hq => ?_)
  obtain ⟨_, _, ⟨o1, t1, rfl, rfl⟩, -, rfl, rfl⟩ := hq
  refine v_stE [.int (r_21 S (xs (i + 1))), .int (r_21 S (xs (i + 1)))] rfl ?_
  refine v_w (xW S u0 T1 v1 K u2 tb tl ni ns ne nk nv wi si nu (fdI (inR (xs (i + 1)) 1 60) fn 0) kp ++ mX (rowOf S) (fdI (inR (xs (i + 1)) 1 60) fn 0) o1 t1 b1 tb tl so be te wo va gd wi si nu le im bf kp) (by rw [mW_cl]) ?_
  refine v_icmp_eq (pc := 873) 1291 g dL_law_873 rfl (fun _ => ?_) (fun c => absurd rfl c)
  refine v_iinc (pc := 1291) _ _ g dL_law_1291 rfl rfl hp.nL.symm rfl ?_
  refine v_loE [some (.ref 3000), some (.ref 0), some (.ref 39), some (.int (nI (i + 6)))] (by show [_, _, _, some (Value.int (nI i + nI 6))] = _; rw [nI_add]; rfl) ?_
  refine v_goto (pc := 1294) 18 g dL_law_1294 rfl ?_
  exact ih _ _ _ _ _ _ _ _ _ _ _ _ _ _ _ _ _ _ _ _ _ _ _ _ _ _ _ _ _ _ (h)
set_option maxRecDepth 20000 in
set_option maxHeartbeats 2000000 in
theorem lc_22 {S : St} {u0 : Int32} {T : St} {u1 : Int32} {K : St} {u2 : Int32} {tb : Nat → Int32} {tl : Nat} {ni : Int32} {ns : Int32} {ne : Int32} {nk : Int32} {nv : Int32} {wi : Nat → Int32} {si : Nat → Int32} {nu : Nat → Int64} {fn : Nat → Int32} {kp : Int32} {of : Int32} {tr : Nat → Int32} {b1 : Nat → Int32} {so : Int32} {be : Int32} {te : Int32} {wo : Int64} {va : Int32} {gd : Int32} {le : Nat → Int64} {im : Nat → Int32} {bf : Nat → Int32} {X : VX} {L i : Nat} {xs : Nat → Int32} (g : VG X code RL 13) (hp : LawP L xs X) (hL : L ≤ 3072) (hi : i + 6 ≤ L) (h : LInv S K tb tl si im kp) (ih : Lp X (i + 6)) : V X 878 [some (.ref 3000), some (.ref 0), some (.ref 39), some (.int (nI i))] [] (xW S u0 T u1 K u2 tb tl ni ns ne nk nv wi si nu fn kp ++ mX (rowOf S) fn of tr b1 tb tl so be te wo va gd wi si nu le im bf kp) := by
  refine v_aload_n (pc := 878) 1 g dL_law_878 rfl rfl ?_
  refine v_aload_n (pc := 879) 0 g dL_law_879 rfl rfl ?_
  refine v_iload_n (pc := 880) 3 g dL_law_880 rfl rfl ?_
  refine v_iconst (pc := 881) (v := 1) g dL_law_881 (by decide) ?_
  refine v_iadd (pc := 882) g dL_law_882 ?_
  refine v_sld (pc := 883) (i + 1) g hp dL_law_883 (nI_add i 1) (by omega) hL ?_
  refine v_aload_n (pc := 884) 0 g dL_law_884 rfl rfl ?_
  refine v_iload_n (pc := 885) 3 g dL_law_885 rfl rfl ?_
  refine v_iconst (pc := 886) (v := 2) g dL_law_886 (by decide) ?_
  refine v_iadd (pc := 887) g dL_law_887 ?_
  refine v_sld (pc := 888) (i + 2) g hp dL_law_888 (nI_add i 2) (by omega) hL ?_
  refine v_cV (pc := 889) g dL_law_889 lk_L_105 (Nat.le_of_ble_eq_true rfl) (Runs.left (c_X4_feed _ _ h.2.2.2.1) _ rfl (xW_cl _ _ _ _ _ _ _ _ _ _ _ _ _ _ _ _ _ _) rfl) rfl rfl rfl rfl (Nat.le_of_ble_eq_true rfl) (fun r1 w1 hq => ?_)
  obtain ⟨_, _, ⟨rfl, rfl⟩, -, rfl, rfl⟩ := hq
  refine v_stE [.int (r_22 tl (xs (i + 2)))] rfl ?_
  refine v_w (xW S u0 T u1 K u2 (t_22 tb tl (xs (i + 1)) (xs (i + 2))) (l_22 tl (xs (i + 2))) ni ns ne nk nv wi si nu (f_22 tl fn (xs (i + 2))) kp ++ mX (rowOf S) fn of tr b1 tb tl so be te wo va gd wi si nu le im bf kp) (by rw [xW_cl]) ?_
  refine v_aload_n (pc := 892) 2 g dL_law_892 rfl rfl ?_
  refine v_aload_n (pc := 893) 0 g dL_law_893 rfl rfl ?_
  refine v_iload_n (pc := 894) 3 g dL_law_894 rfl rfl ?_
  refine v_iconst (pc := 895) (v := 1) g dL_law_895 (by decide) ?_
  refine v_iadd (pc := 896) g dL_law_896 ?_
  refine v_sld (pc := 897) (i + 1) g hp dL_law_897 (nI_add i 1) (by omega) hL ?_
  refine v_aload_n (pc := 898) 0 g dL_law_898 rfl rfl ?_
  refine v_iload_n (pc := 899) 3 g dL_law_899 rfl rfl ?_
  refine v_iconst (pc := 900) (v := 2) g dL_law_900 (by decide) ?_
  refine v_iadd (pc := 901) g dL_law_901 ?_
  refine v_sld (pc := 902) (i + 2) g hp dL_law_902 (nI_add i 2) (by omega) hL ?_
  refine v_cV (pc := 903) g dL_law_903 lk_L_108 (Nat.le_of_ble_eq_true rfl) (Runs.right (c_X5_feed (rowOf S) _ _ h.2.2.2.1) _ rfl rfl (mW_cl _ _ _ _ _ _ _ _ _ _ _ _ _ _ _ _ _ _ _ _) rfl) rfl rfl rfl rfl (Nat.le_of_ble_eq_true rfl) (fun r1 w1 hq => ?_)
  obtain ⟨_, _, ⟨rfl, rfl⟩, -, rfl, rfl⟩ := hq
  refine v_stE [.int (r_22 tl (xs (i + 2))), .int (r_22 tl (xs (i + 2)))] rfl ?_
  refine v_w (xW S u0 T u1 K u2 (t_22 tb tl (xs (i + 1)) (xs (i + 2))) (l_22 tl (xs (i + 2))) ni ns ne nk nv wi si nu (f_22 tl fn (xs (i + 2))) kp ++ mX (rowOf S) (f_22 tl fn (xs (i + 2))) of tr b1 (t_22 tb tl (xs (i + 1)) (xs (i + 2))) (l_22 tl (xs (i + 2))) so be te wo va gd wi si nu le im bf kp) (by rw [mW_cl]) ?_
  refine v_icmp_eq (pc := 906) 1291 g dL_law_906 rfl (fun _ => ?_) (fun c => absurd rfl c)
  refine v_iinc (pc := 1291) _ _ g dL_law_1291 rfl rfl hp.nL.symm rfl ?_
  refine v_loE [some (.ref 3000), some (.ref 0), some (.ref 39), some (.int (nI (i + 6)))] (by show [_, _, _, some (Value.int (nI i + nI 6))] = _; rw [nI_add]; rfl) ?_
  refine v_goto (pc := 1294) 18 g dL_law_1294 rfl ?_
  exact ih _ _ _ _ _ _ _ _ _ _ _ _ _ _ _ _ _ _ _ _ _ _ _ _ _ _ _ _ _ _ (⟨h.1, h.2.1, t22_R h.2.2.1 _ _ _, l22_le h.2.2.2.1 _, h.2.2.2.2⟩)
set_option maxRecDepth 20000 in
set_option maxHeartbeats 2000000 in
theorem lc_23 {S : St} {u0 : Int32} {T : St} {u1 : Int32} {K : St} {u2 : Int32} {tb : Nat → Int32} {tl : Nat} {ni : Int32} {ns : Int32} {ne : Int32} {nk : Int32} {nv : Int32} {wi : Nat → Int32} {si : Nat → Int32} {nu : Nat → Int64} {fn : Nat → Int32} {kp : Int32} {of : Int32} {tr : Nat → Int32} {b1 : Nat → Int32} {so : Int32} {be : Int32} {te : Int32} {wo : Int64} {va : Int32} {gd : Int32} {le : Nat → Int64} {im : Nat → Int32} {bf : Nat → Int32} {X : VX} {L i : Nat} {xs : Nat → Int32} (g : VG X code RL 13) (hp : LawP L xs X) (hL : L ≤ 3072) (hi : i + 6 ≤ L) (h : LInv S K tb tl si im kp) (ih : Lp X (i + 6)) : V X 911 [some (.ref 3000), some (.ref 0), some (.ref 39), some (.int (nI i))] [] (xW S u0 T u1 K u2 tb tl ni ns ne nk nv wi si nu fn kp ++ mX (rowOf S) fn of tr b1 tb tl so be te wo va gd wi si nu le im bf kp) := by
  refine v_aload_n (pc := 911) 1 g dL_law_911 rfl rfl ?_
  refine v_cV (pc := 912) g dL_law_912 lk_L_109 (Nat.le_of_ble_eq_true rfl) (Runs.left (c_X4_wipe) _ rfl (xW_cl _ _ _ _ _ _ _ _ _ _ _ _ _ _ _ _ _ _) rfl) rfl rfl rfl rfl (Nat.le_of_ble_eq_true rfl) (fun r1 w1 hq => ?_)
  obtain ⟨_, _, ⟨rfl, rfl⟩, -, rfl, rfl⟩ := hq
  refine v_stE [.int (nI tl)] rfl ?_
  refine v_w (xW S u0 T u1 K u2 tb 0 ni ns ne nk nv wi si nu fn kp ++ mX (rowOf S) fn of tr b1 tb tl so be te wo va gd wi si nu le im bf kp) (by rw [xW_cl]) ?_
  refine v_aload_n (pc := 915) 2 g dL_law_915 rfl rfl ?_
  refine v_cV (pc := 916) g dL_law_916 lk_L_112 (Nat.le_of_ble_eq_true rfl) (Runs.right (c_X5_wipe (rowOf S)) _ rfl rfl (mW_cl _ _ _ _ _ _ _ _ _ _ _ _ _ _ _ _ _ _ _ _) rfl) rfl rfl rfl rfl (Nat.le_of_ble_eq_true rfl) (fun r1 w1 hq => ?_)
  obtain ⟨_, _, ⟨rfl, rfl⟩, -, rfl, rfl⟩ := hq
  refine v_stE [.int (nI tl), .int (nI tl)] rfl ?_
  refine v_w (xW S u0 T u1 K u2 tb 0 ni ns ne nk nv wi si nu fn kp ++ mX (rowOf S) fn of tr b1 tb 0 so be te wo va gd wi si nu le im bf kp) (by rw [mW_cl]) ?_
  refine v_icmp_eq (pc := 919) 1291 g dL_law_919 rfl (fun _ => ?_) (fun c => absurd rfl c)
  refine v_iinc (pc := 1291) _ _ g dL_law_1291 rfl rfl hp.nL.symm rfl ?_
  refine v_loE [some (.ref 3000), some (.ref 0), some (.ref 39), some (.int (nI (i + 6)))] (by show [_, _, _, some (Value.int (nI i + nI 6))] = _; rw [nI_add]; rfl) ?_
  refine v_goto (pc := 1294) 18 g dL_law_1294 rfl ?_
  exact ih _ _ _ _ _ _ _ _ _ _ _ _ _ _ _ _ _ _ _ _ _ _ _ _ _ _ _ _ _ _ (⟨h.1, h.2.1, h.2.2.1, Nat.zero_le _, h.2.2.2.2⟩)
set_option maxRecDepth 20000 in
set_option maxHeartbeats 2000000 in
theorem lc_24 {S : St} {u0 : Int32} {T : St} {u1 : Int32} {K : St} {u2 : Int32} {tb : Nat → Int32} {tl : Nat} {ni : Int32} {ns : Int32} {ne : Int32} {nk : Int32} {nv : Int32} {wi : Nat → Int32} {si : Nat → Int32} {nu : Nat → Int64} {fn : Nat → Int32} {kp : Int32} {of : Int32} {tr : Nat → Int32} {b1 : Nat → Int32} {so : Int32} {be : Int32} {te : Int32} {wo : Int64} {va : Int32} {gd : Int32} {le : Nat → Int64} {im : Nat → Int32} {bf : Nat → Int32} {X : VX} {L i : Nat} {xs : Nat → Int32} (g : VG X code RL 13) (hp : LawP L xs X) (hL : L ≤ 3072) (hi : i + 6 ≤ L) (h : LInv S K tb tl si im kp) (ih : Lp X (i + 6)) : V X 924 [some (.ref 3000), some (.ref 0), some (.ref 39), some (.int (nI i))] [] (xW S u0 T u1 K u2 tb tl ni ns ne nk nv wi si nu fn kp ++ mX (rowOf S) fn of tr b1 tb tl so be te wo va gd wi si nu le im bf kp) := by
  refine v_aload_n (pc := 924) 1 g dL_law_924 rfl rfl ?_
  refine v_cV (pc := 925) g dL_law_925 lk_L_113 (Nat.le_of_ble_eq_true rfl) (Runs.left (c_X4_winter h.1.1 h.2.2.1 h.2.2.2.1) _ rfl (xW_cl _ _ _ _ _ _ _ _ _ _ _ _ _ _ _ _ _ _) rfl) rfl rfl rfl rfl (Nat.le_of_ble_eq_true rfl) (fun r1 w1 hq => ?_)
  obtain ⟨_, _, ⟨T1, i1, n1, e1, k1, v1, rfl, rfl⟩, -, rfl, rfl⟩ := hq
  refine v_stE [.int (r_24 S tb tl)] rfl ?_
  refine v_w (xW (s_24 S tb tl) u0 T1 u1 K u2 tb 0 i1 n1 e1 k1 v1 wi si nu fn kp ++ mX (rowOf S) fn of tr b1 tb tl so be te wo va gd wi si nu le im bf kp) (by rw [xW_cl]) ?_
  refine v_aload_n (pc := 928) 2 g dL_law_928 rfl rfl ?_
  refine v_cV (pc := 929) g dL_law_929 lk_L_116 (Nat.le_of_ble_eq_true rfl) (Runs.right (c_X5_winter S h.1.1 h.2.2.1 h.2.2.2.1) _ rfl rfl (mW_cl _ _ _ _ _ _ _ _ _ _ _ _ _ _ _ _ _ _ _ _) rfl) rfl rfl rfl rfl (Nat.le_of_ble_eq_true rfl) (fun r1 w1 hq => ?_)
  obtain ⟨_, _, ⟨so1, be1, te1, wo1, va1, gd1, bf1, rfl, rfl⟩, -, rfl, rfl⟩ := hq
  refine v_stE [.int (r_24 S tb tl), .int (r_24 S tb tl)] rfl ?_
  refine v_w (xW (s_24 S tb tl) u0 T1 u1 K u2 tb 0 i1 n1 e1 k1 v1 wi si nu fn kp ++ mX (rowOf (s_24 S tb tl)) fn of tr b1 tb 0 so1 be1 te1 wo1 va1 gd1 wi si nu le im bf1 kp) (by rw [mW_cl]) ?_
  refine v_icmp_eq (pc := 932) 1291 g dL_law_932 rfl (fun _ => ?_) (fun c => absurd rfl c)
  refine v_iinc (pc := 1291) _ _ g dL_law_1291 rfl rfl hp.nL.symm rfl ?_
  refine v_loE [some (.ref 3000), some (.ref 0), some (.ref 39), some (.int (nI (i + 6)))] (by show [_, _, _, some (Value.int (nI i + nI 6))] = _; rw [nI_add]; rfl) ?_
  refine v_goto (pc := 1294) 18 g dL_law_1294 rfl ?_
  exact ih _ _ _ _ _ _ _ _ _ _ _ _ _ _ _ _ _ _ _ _ _ _ _ _ _ _ _ _ _ _ (⟨h.1.s_24 _ _, h.2.1, h.2.2.1, Nat.zero_le _, h.2.2.2.2⟩)
set_option maxRecDepth 20000 in
set_option maxHeartbeats 2000000 in
theorem lc_25 {S : St} {u0 : Int32} {T : St} {u1 : Int32} {K : St} {u2 : Int32} {tb : Nat → Int32} {tl : Nat} {ni : Int32} {ns : Int32} {ne : Int32} {nk : Int32} {nv : Int32} {wi : Nat → Int32} {si : Nat → Int32} {nu : Nat → Int64} {fn : Nat → Int32} {kp : Int32} {of : Int32} {tr : Nat → Int32} {b1 : Nat → Int32} {so : Int32} {be : Int32} {te : Int32} {wo : Int64} {va : Int32} {gd : Int32} {le : Nat → Int64} {im : Nat → Int32} {bf : Nat → Int32} {X : VX} {L i : Nat} {xs : Nat → Int32} (g : VG X code RL 13) (hp : LawP L xs X) (hL : L ≤ 3072) (hi : i + 6 ≤ L) (h : LInv S K tb tl si im kp) (ih : Lp X (i + 6)) : V X 937 [some (.ref 3000), some (.ref 0), some (.ref 39), some (.int (nI i))] [] (xW S u0 T u1 K u2 tb tl ni ns ne nk nv wi si nu fn kp ++ mX (rowOf S) fn of tr b1 tb tl so be te wo va gd wi si nu le im bf kp) := by
  refine v_aload_n (pc := 937) 1 g dL_law_937 rfl rfl ?_
  refine v_aload_n (pc := 938) 0 g dL_law_938 rfl rfl ?_
  refine v_iload_n (pc := 939) 3 g dL_law_939 rfl rfl ?_
  refine v_iconst (pc := 940) (v := 1) g dL_law_940 (by decide) ?_
  refine v_iadd (pc := 941) g dL_law_941 ?_
  refine v_sld (pc := 942) (i + 1) g hp dL_law_942 (nI_add i 1) (by omega) hL ?_
  refine v_aload_n (pc := 943) 0 g dL_law_943 rfl rfl ?_
  refine v_iload_n (pc := 944) 3 g dL_law_944 rfl rfl ?_
  refine v_iconst (pc := 945) (v := 2) g dL_law_945 (by decide) ?_
  refine v_iadd (pc := 946) g dL_law_946 ?_
  refine v_sld (pc := 947) (i + 2) g hp dL_law_947 (nI_add i 2) (by omega) hL ?_
  refine v_aload_n (pc := 948) 0 g dL_law_948 rfl rfl ?_
  refine v_iload_n (pc := 949) 3 g dL_law_949 rfl rfl ?_
  refine v_iconst (pc := 950) (v := 3) g dL_law_950 (by decide) ?_
  refine v_iadd (pc := 951) g dL_law_951 ?_
  refine v_sld (pc := 952) (i + 3) g hp dL_law_952 (nI_add i 3) (by omega) hL ?_
  refine v_cV (pc := 953) g dL_law_953 lk_L_117 (Nat.le_of_ble_eq_true rfl) (Runs.left (c_X4_sheet _ _ _) _ rfl (xW_cl _ _ _ _ _ _ _ _ _ _ _ _ _ _ _ _ _ _) rfl) rfl rfl rfl rfl (Nat.le_of_ble_eq_true rfl) (fun r1 w1 hq => ?_)
  obtain ⟨_, _, ⟨rfl, rfl⟩, -, rfl, rfl⟩ := hq
  refine v_stE [.int (r_25 (xs (i + 1)) (xs (i + 2)) (xs (i + 3)))] rfl ?_
  refine v_w (xW S u0 T u1 K u2 tb tl ni ns ne nk nv (w_25 wi (xs (i + 1)) (xs (i + 2)) (xs (i + 3))) (z_25 si (xs (i + 1)) (xs (i + 2)) (xs (i + 3))) (q_25 nu (xs (i + 1)) (xs (i + 2)) (xs (i + 3))) (f_25 fn (xs (i + 1)) (xs (i + 2)) (xs (i + 3))) kp ++ mX (rowOf S) fn of tr b1 tb tl so be te wo va gd wi si nu le im bf kp) (by rw [xW_cl]) ?_
  refine v_aload_n (pc := 956) 2 g dL_law_956 rfl rfl ?_
  refine v_aload_n (pc := 957) 0 g dL_law_957 rfl rfl ?_
  refine v_iload_n (pc := 958) 3 g dL_law_958 rfl rfl ?_
  refine v_iconst (pc := 959) (v := 1) g dL_law_959 (by decide) ?_
  refine v_iadd (pc := 960) g dL_law_960 ?_
  refine v_sld (pc := 961) (i + 1) g hp dL_law_961 (nI_add i 1) (by omega) hL ?_
  refine v_aload_n (pc := 962) 0 g dL_law_962 rfl rfl ?_
  refine v_iload_n (pc := 963) 3 g dL_law_963 rfl rfl ?_
  refine v_iconst (pc := 964) (v := 2) g dL_law_964 (by decide) ?_
  refine v_iadd (pc := 965) g dL_law_965 ?_
  refine v_sld (pc := 966) (i + 2) g hp dL_law_966 (nI_add i 2) (by omega) hL ?_
  refine v_aload_n (pc := 967) 0 g dL_law_967 rfl rfl ?_
  refine v_iload_n (pc := 968) 3 g dL_law_968 rfl rfl ?_
  refine v_iconst (pc := 969) (v := 3) g dL_law_969 (by decide) ?_
  refine v_iadd (pc := 970) g dL_law_970 ?_
  refine v_sld (pc := 971) (i + 3) g hp dL_law_971 (nI_add i 3) (by omega) hL ?_
  refine v_cV (pc := 972) g dL_law_972 lk_L_120 (Nat.le_of_ble_eq_true rfl) (Runs.right (c_X5_sheet (rowOf S) _ _ _) _ rfl rfl (mW_cl _ _ _ _ _ _ _ _ _ _ _ _ _ _ _ _ _ _ _ _) rfl) rfl rfl rfl rfl (Nat.le_of_ble_eq_true rfl) (fun r1 w1 hq => ?_)
  obtain ⟨_, _, ⟨rfl, rfl⟩, -, rfl, rfl⟩ := hq
  refine v_stE [.int (r_25 (xs (i + 1)) (xs (i + 2)) (xs (i + 3))), .int (r_25 (xs (i + 1)) (xs (i + 2)) (xs (i + 3)))] rfl ?_
  refine v_w (xW S u0 T u1 K u2 tb tl ni ns ne nk nv (w_25 wi (xs (i + 1)) (xs (i + 2)) (xs (i + 3))) (z_25 si (xs (i + 1)) (xs (i + 2)) (xs (i + 3))) (q_25 nu (xs (i + 1)) (xs (i + 2)) (xs (i + 3))) (f_25 fn (xs (i + 1)) (xs (i + 2)) (xs (i + 3))) kp ++ mX (rowOf S) (f_25 fn (xs (i + 1)) (xs (i + 2)) (xs (i + 3))) of tr b1 tb tl so be te wo va gd (w_25 wi (xs (i + 1)) (xs (i + 2)) (xs (i + 3))) (z_25 si (xs (i + 1)) (xs (i + 2)) (xs (i + 3))) (q_25 nu (xs (i + 1)) (xs (i + 2)) (xs (i + 3))) le im bf kp) (by rw [mW_cl]) ?_
  refine v_icmp_eq (pc := 975) 1291 g dL_law_975 rfl (fun _ => ?_) (fun c => absurd rfl c)
  refine v_iinc (pc := 1291) _ _ g dL_law_1291 rfl rfl hp.nL.symm rfl ?_
  refine v_loE [some (.ref 3000), some (.ref 0), some (.ref 39), some (.int (nI (i + 6)))] (by show [_, _, _, some (Value.int (nI i + nI 6))] = _; rw [nI_add]; rfl) ?_
  refine v_goto (pc := 1294) 18 g dL_law_1294 rfl ?_
  exact ih _ _ _ _ _ _ _ _ _ _ _ _ _ _ _ _ _ _ _ _ _ _ _ _ _ _ _ _ _ _ (⟨h.1, h.2.1, h.2.2.1, h.2.2.2.1, z25_in h.2.2.2.2.1 _ _ _, h.2.2.2.2.2⟩)
set_option maxRecDepth 20000 in
set_option maxHeartbeats 2000000 in
theorem lc_26 {S : St} {u0 : Int32} {T : St} {u1 : Int32} {K : St} {u2 : Int32} {tb : Nat → Int32} {tl : Nat} {ni : Int32} {ns : Int32} {ne : Int32} {nk : Int32} {nv : Int32} {wi : Nat → Int32} {si : Nat → Int32} {nu : Nat → Int64} {fn : Nat → Int32} {kp : Int32} {of : Int32} {tr : Nat → Int32} {b1 : Nat → Int32} {so : Int32} {be : Int32} {te : Int32} {wo : Int64} {va : Int32} {gd : Int32} {le : Nat → Int64} {im : Nat → Int32} {bf : Nat → Int32} {X : VX} {L i : Nat} {xs : Nat → Int32} (g : VG X code RL 13) (hp : LawP L xs X) (hL : L ≤ 3072) (hi : i + 6 ≤ L) (h : LInv S K tb tl si im kp) (ih : Lp X (i + 6)) : V X 980 [some (.ref 3000), some (.ref 0), some (.ref 39), some (.int (nI i))] [] (xW S u0 T u1 K u2 tb tl ni ns ne nk nv wi si nu fn kp ++ mX (rowOf S) fn of tr b1 tb tl so be te wo va gd wi si nu le im bf kp) := by
  refine v_aload_n (pc := 980) 1 g dL_law_980 rfl rfl ?_
  refine v_aload_n (pc := 981) 0 g dL_law_981 rfl rfl ?_
  refine v_iload_n (pc := 982) 3 g dL_law_982 rfl rfl ?_
  refine v_iconst (pc := 983) (v := 1) g dL_law_983 (by decide) ?_
  refine v_iadd (pc := 984) g dL_law_984 ?_
  refine v_sld (pc := 985) (i + 1) g hp dL_law_985 (nI_add i 1) (by omega) hL ?_
  refine v_aload_n (pc := 986) 0 g dL_law_986 rfl rfl ?_
  refine v_iload_n (pc := 987) 3 g dL_law_987 rfl rfl ?_
  refine v_iconst (pc := 988) (v := 2) g dL_law_988 (by decide) ?_
  refine v_iadd (pc := 989) g dL_law_989 ?_
  refine v_sld (pc := 990) (i + 2) g hp dL_law_990 (nI_add i 2) (by omega) hL ?_
  refine v_aload_n (pc := 991) 0 g dL_law_991 rfl rfl ?_
  refine v_iload_n (pc := 992) 3 g dL_law_992 rfl rfl ?_
  refine v_iconst (pc := 993) (v := 3) g dL_law_993 (by decide) ?_
  refine v_iadd (pc := 994) g dL_law_994 ?_
  refine v_sld (pc := 995) (i + 3) g hp dL_law_995 (nI_add i 3) (by omega) hL ?_
  refine v_i2l (pc := 996) g dL_law_996 ?_
  refine v_bipush (pc := 997) (v := 32) g dL_law_997 (by decide) ?_
  refine v_lshl (pc := 999) g dL_law_999 ?_
  refine v_aload_n (pc := 1000) 0 g dL_law_1000 rfl rfl ?_
  refine v_iload_n (pc := 1001) 3 g dL_law_1001 rfl rfl ?_
  refine v_iconst (pc := 1002) (v := 4) g dL_law_1002 (by decide) ?_
  refine v_iadd (pc := 1003) g dL_law_1003 ?_
  refine v_sld (pc := 1004) (i + 4) g hp dL_law_1004 (nI_add i 4) (by omega) hL ?_
  refine v_i2l (pc := 1005) g dL_law_1005 ?_
  refine v_ldc2 (pc := 1006) g dL_law_1006 co_L_121 ?_
  refine v_land (pc := 1009) g dL_law_1009 ?_
  refine v_lor (pc := 1010) g dL_law_1010 ?_
  refine v_cV (pc := 1011) g dL_law_1011 lk_L_123 (Nat.le_of_ble_eq_true rfl) (Runs.left (c_X4_write _ _ _ h.2.2.2.2.1) _ rfl (xW_cl _ _ _ _ _ _ _ _ _ _ _ _ _ _ _ _ _ _) rfl) rfl rfl rfl rfl (Nat.le_of_ble_eq_true rfl) (fun r1 w1 hq => ?_)
  obtain ⟨_, _, ⟨rfl, rfl⟩, -, rfl, rfl⟩ := hq
  refine v_stE [.long (r_26 wi si nu (xs (i + 1)) (xs (i + 2)))] rfl ?_
  refine v_w (xW S u0 T u1 K u2 tb tl ni ns ne nk nv wi si (q_26 wi si nu (xs (i + 1)) (xs (i + 2)) ((xs (i + 3)).toInt64 <<< ((32 : Int32).toInt64 &&& 63) ||| ((xs (i + 4)).toInt64 &&& 4294967295))) (f_26 wi si fn (xs (i + 1)) (xs (i + 2))) kp ++ mX (rowOf S) fn of tr b1 tb tl so be te wo va gd wi si nu le im bf kp) (by rw [xW_cl]) ?_
  refine v_aload_n (pc := 1014) 2 g dL_law_1014 rfl rfl ?_
  refine v_aload_n (pc := 1015) 0 g dL_law_1015 rfl rfl ?_
  refine v_iload_n (pc := 1016) 3 g dL_law_1016 rfl rfl ?_
  refine v_iconst (pc := 1017) (v := 1) g dL_law_1017 (by decide) ?_
  refine v_iadd (pc := 1018) g dL_law_1018 ?_
  refine v_sld (pc := 1019) (i + 1) g hp dL_law_1019 (nI_add i 1) (by omega) hL ?_
  refine v_aload_n (pc := 1020) 0 g dL_law_1020 rfl rfl ?_
  refine v_iload_n (pc := 1021) 3 g dL_law_1021 rfl rfl ?_
  refine v_iconst (pc := 1022) (v := 2) g dL_law_1022 (by decide) ?_
  refine v_iadd (pc := 1023) g dL_law_1023 ?_
  refine v_sld (pc := 1024) (i + 2) g hp dL_law_1024 (nI_add i 2) (by omega) hL ?_
  refine v_aload_n (pc := 1025) 0 g dL_law_1025 rfl rfl ?_
  refine v_iload_n (pc := 1026) 3 g dL_law_1026 rfl rfl ?_
  refine v_iconst (pc := 1027) (v := 3) g dL_law_1027 (by decide) ?_
  refine v_iadd (pc := 1028) g dL_law_1028 ?_
  refine v_sld (pc := 1029) (i + 3) g hp dL_law_1029 (nI_add i 3) (by omega) hL ?_
  refine v_i2l (pc := 1030) g dL_law_1030 ?_
  refine v_bipush (pc := 1031) (v := 32) g dL_law_1031 (by decide) ?_
  refine v_lshl (pc := 1033) g dL_law_1033 ?_
  refine v_aload_n (pc := 1034) 0 g dL_law_1034 rfl rfl ?_
  refine v_iload_n (pc := 1035) 3 g dL_law_1035 rfl rfl ?_
  refine v_iconst (pc := 1036) (v := 4) g dL_law_1036 (by decide) ?_
  refine v_iadd (pc := 1037) g dL_law_1037 ?_
  refine v_sld (pc := 1038) (i + 4) g hp dL_law_1038 (nI_add i 4) (by omega) hL ?_
  refine v_i2l (pc := 1039) g dL_law_1039 ?_
  refine v_ldc2 (pc := 1040) g dL_law_1040 co_L_121 ?_
  refine v_land (pc := 1043) g dL_law_1043 ?_
  refine v_lor (pc := 1044) g dL_law_1044 ?_
  refine v_cV (pc := 1045) g dL_law_1045 lk_L_127 (Nat.le_of_ble_eq_true rfl) (Runs.right (c_X5_write (rowOf S) _ _ _ h.2.2.2.2.1) _ rfl rfl (mW_cl _ _ _ _ _ _ _ _ _ _ _ _ _ _ _ _ _ _ _ _) rfl) rfl rfl rfl rfl (Nat.le_of_ble_eq_true rfl) (fun r1 w1 hq => ?_)
  obtain ⟨_, _, ⟨rfl, rfl⟩, -, rfl, rfl⟩ := hq
  refine v_stE [.long (r_26 wi si nu (xs (i + 1)) (xs (i + 2))), .long (r_26 wi si nu (xs (i + 1)) (xs (i + 2)))] rfl ?_
  refine v_w (xW S u0 T u1 K u2 tb tl ni ns ne nk nv wi si (q_26 wi si nu (xs (i + 1)) (xs (i + 2)) ((xs (i + 3)).toInt64 <<< ((32 : Int32).toInt64 &&& 63) ||| ((xs (i + 4)).toInt64 &&& 4294967295))) (f_26 wi si fn (xs (i + 1)) (xs (i + 2))) kp ++ mX (rowOf S) (f_26 wi si fn (xs (i + 1)) (xs (i + 2))) of tr b1 tb tl so be te wo va gd wi si (q_26 wi si nu (xs (i + 1)) (xs (i + 2)) ((xs (i + 3)).toInt64 <<< ((32 : Int32).toInt64 &&& 63) ||| ((xs (i + 4)).toInt64 &&& 4294967295))) le im bf kp) (by rw [mW_cl]) ?_
  refine v_lcmp (pc := 1048) g dL_law_1048 ?_
  refine v_if_eq (pc := 1049) 1291 g dL_law_1049 rfl (fun _ => ?_) (fun c => absurd (lg_eq.mpr rfl) c)
  refine v_iinc (pc := 1291) _ _ g dL_law_1291 rfl rfl hp.nL.symm rfl ?_
  refine v_loE [some (.ref 3000), some (.ref 0), some (.ref 39), some (.int (nI (i + 6)))] (by show [_, _, _, some (Value.int (nI i + nI 6))] = _; rw [nI_add]; rfl) ?_
  refine v_goto (pc := 1294) 18 g dL_law_1294 rfl ?_
  exact ih _ _ _ _ _ _ _ _ _ _ _ _ _ _ _ _ _ _ _ _ _ _ _ _ _ _ _ _ _ _ (h)
set_option maxRecDepth 20000 in
set_option maxHeartbeats 2000000 in
theorem lc_27 {S : St} {u0 : Int32} {T : St} {u1 : Int32} {K : St} {u2 : Int32} {tb : Nat → Int32} {tl : Nat} {ni : Int32} {ns : Int32} {ne : Int32} {nk : Int32} {nv : Int32} {wi : Nat → Int32} {si : Nat → Int32} {nu : Nat → Int64} {fn : Nat → Int32} {kp : Int32} {of : Int32} {tr : Nat → Int32} {b1 : Nat → Int32} {so : Int32} {be : Int32} {te : Int32} {wo : Int64} {va : Int32} {gd : Int32} {le : Nat → Int64} {im : Nat → Int32} {bf : Nat → Int32} {X : VX} {L i : Nat} {xs : Nat → Int32} (g : VG X code RL 13) (hp : LawP L xs X) (hL : L ≤ 3072) (hi : i + 6 ≤ L) (h : LInv S K tb tl si im kp) (ih : Lp X (i + 6)) : V X 1054 [some (.ref 3000), some (.ref 0), some (.ref 39), some (.int (nI i))] [] (xW S u0 T u1 K u2 tb tl ni ns ne nk nv wi si nu fn kp ++ mX (rowOf S) fn of tr b1 tb tl so be te wo va gd wi si nu le im bf kp) := by
  refine v_aload_n (pc := 1054) 1 g dL_law_1054 rfl rfl ?_
  refine v_aload_n (pc := 1055) 0 g dL_law_1055 rfl rfl ?_
  refine v_iload_n (pc := 1056) 3 g dL_law_1056 rfl rfl ?_
  refine v_iconst (pc := 1057) (v := 1) g dL_law_1057 (by decide) ?_
  refine v_iadd (pc := 1058) g dL_law_1058 ?_
  refine v_sld (pc := 1059) (i + 1) g hp dL_law_1059 (nI_add i 1) (by omega) hL ?_
  refine v_aload_n (pc := 1060) 0 g dL_law_1060 rfl rfl ?_
  refine v_iload_n (pc := 1061) 3 g dL_law_1061 rfl rfl ?_
  refine v_iconst (pc := 1062) (v := 2) g dL_law_1062 (by decide) ?_
  refine v_iadd (pc := 1063) g dL_law_1063 ?_
  refine v_sld (pc := 1064) (i + 2) g hp dL_law_1064 (nI_add i 2) (by omega) hL ?_
  refine v_aload_n (pc := 1065) 0 g dL_law_1065 rfl rfl ?_
  refine v_iload_n (pc := 1066) 3 g dL_law_1066 rfl rfl ?_
  refine v_iconst (pc := 1067) (v := 3) g dL_law_1067 (by decide) ?_
  refine v_iadd (pc := 1068) g dL_law_1068 ?_
  refine v_sld (pc := 1069) (i + 3) g hp dL_law_1069 (nI_add i 3) (by omega) hL ?_
  refine v_aload_n (pc := 1070) 0 g dL_law_1070 rfl rfl ?_
  refine v_iload_n (pc := 1071) 3 g dL_law_1071 rfl rfl ?_
  refine v_iconst (pc := 1072) (v := 4) g dL_law_1072 (by decide) ?_
  refine v_iadd (pc := 1073) g dL_law_1073 ?_
  refine v_sld (pc := 1074) (i + 4) g hp dL_law_1074 (nI_add i 4) (by omega) hL ?_
  refine v_aload_n (pc := 1075) 0 g dL_law_1075 rfl rfl ?_
  refine v_iload_n (pc := 1076) 3 g dL_law_1076 rfl rfl ?_
  refine v_iconst (pc := 1077) (v := 5) g dL_law_1077 (by decide) ?_
  refine v_iadd (pc := 1078) g dL_law_1078 ?_
  refine v_sld (pc := 1079) (i + 5) g hp dL_law_1079 (nI_add i 5) (by omega) hL ?_
  refine v_cV (pc := 1080) g dL_law_1080 lk_L_128 (Nat.le_of_ble_eq_true rfl) (Runs.left (c_X4_copy _ _ _ _ _ h.2.2.2.2.1) _ rfl (xW_cl _ _ _ _ _ _ _ _ _ _ _ _ _ _ _ _ _ _) rfl) rfl rfl rfl rfl (Nat.le_of_ble_eq_true rfl) (fun r1 w1 hq => ?_)
  obtain ⟨_, _, ⟨rfl, rfl⟩, -, rfl, rfl⟩ := hq
  refine v_stE [.int (r_27 wi si (xs (i + 1)) (xs (i + 2)) (xs (i + 3)) (xs (i + 4)) (xs (i + 5)))] rfl ?_
  refine v_w (xW S u0 T u1 K u2 tb tl ni ns ne nk nv wi si (q_27 wi si nu (xs (i + 1)) (xs (i + 2)) (xs (i + 3)) (xs (i + 4)) (xs (i + 5))) (f_27 wi si fn (xs (i + 1)) (xs (i + 2)) (xs (i + 3)) (xs (i + 4)) (xs (i + 5))) kp ++ mX (rowOf S) fn of tr b1 tb tl so be te wo va gd wi si nu le im bf kp) (by rw [xW_cl]) ?_
  refine v_aload_n (pc := 1083) 2 g dL_law_1083 rfl rfl ?_
  refine v_aload_n (pc := 1084) 0 g dL_law_1084 rfl rfl ?_
  refine v_iload_n (pc := 1085) 3 g dL_law_1085 rfl rfl ?_
  refine v_iconst (pc := 1086) (v := 1) g dL_law_1086 (by decide) ?_
  refine v_iadd (pc := 1087) g dL_law_1087 ?_
  refine v_sld (pc := 1088) (i + 1) g hp dL_law_1088 (nI_add i 1) (by omega) hL ?_
  refine v_aload_n (pc := 1089) 0 g dL_law_1089 rfl rfl ?_
  refine v_iload_n (pc := 1090) 3 g dL_law_1090 rfl rfl ?_
  refine v_iconst (pc := 1091) (v := 2) g dL_law_1091 (by decide) ?_
  refine v_iadd (pc := 1092) g dL_law_1092 ?_
  refine v_sld (pc := 1093) (i + 2) g hp dL_law_1093 (nI_add i 2) (by omega) hL ?_
  refine v_aload_n (pc := 1094) 0 g dL_law_1094 rfl rfl ?_
  refine v_iload_n (pc := 1095) 3 g dL_law_1095 rfl rfl ?_
  refine v_iconst (pc := 1096) (v := 3) g dL_law_1096 (by decide) ?_
  refine v_iadd (pc := 1097) g dL_law_1097 ?_
  refine v_sld (pc := 1098) (i + 3) g hp dL_law_1098 (nI_add i 3) (by omega) hL ?_
  refine v_aload_n (pc := 1099) 0 g dL_law_1099 rfl rfl ?_
  refine v_iload_n (pc := 1100) 3 g dL_law_1100 rfl rfl ?_
  refine v_iconst (pc := 1101) (v := 4) g dL_law_1101 (by decide) ?_
  refine v_iadd (pc := 1102) g dL_law_1102 ?_
  refine v_sld (pc := 1103) (i + 4) g hp dL_law_1103 (nI_add i 4) (by omega) hL ?_
  refine v_aload_n (pc := 1104) 0 g dL_law_1104 rfl rfl ?_
  refine v_iload_n (pc := 1105) 3 g dL_law_1105 rfl rfl ?_
  refine v_iconst (pc := 1106) (v := 5) g dL_law_1106 (by decide) ?_
  refine v_iadd (pc := 1107) g dL_law_1107 ?_
  refine v_sld (pc := 1108) (i + 5) g hp dL_law_1108 (nI_add i 5) (by omega) hL ?_
  refine v_cV (pc := 1109) g dL_law_1109 lk_L_132 (Nat.le_of_ble_eq_true rfl) (Runs.right (c_X5_copy (rowOf S) _ _ _ _ _ h.2.2.2.2.1) _ rfl rfl (mW_cl _ _ _ _ _ _ _ _ _ _ _ _ _ _ _ _ _ _ _ _) rfl) rfl rfl rfl rfl (Nat.le_of_ble_eq_true rfl) (fun r1 w1 hq => ?_)
  obtain ⟨_, _, ⟨l1, rfl, rfl⟩, -, rfl, rfl⟩ := hq
  refine v_stE [.int (r_27 wi si (xs (i + 1)) (xs (i + 2)) (xs (i + 3)) (xs (i + 4)) (xs (i + 5))), .int (r_27 wi si (xs (i + 1)) (xs (i + 2)) (xs (i + 3)) (xs (i + 4)) (xs (i + 5)))] rfl ?_
  refine v_w (xW S u0 T u1 K u2 tb tl ni ns ne nk nv wi si (q_27 wi si nu (xs (i + 1)) (xs (i + 2)) (xs (i + 3)) (xs (i + 4)) (xs (i + 5))) (f_27 wi si fn (xs (i + 1)) (xs (i + 2)) (xs (i + 3)) (xs (i + 4)) (xs (i + 5))) kp ++ mX (rowOf S) (f_27 wi si fn (xs (i + 1)) (xs (i + 2)) (xs (i + 3)) (xs (i + 4)) (xs (i + 5))) of tr b1 tb tl so be te wo va gd wi si (q_27 wi si nu (xs (i + 1)) (xs (i + 2)) (xs (i + 3)) (xs (i + 4)) (xs (i + 5))) l1 im bf kp) (by rw [mW_cl]) ?_
  refine v_icmp_eq (pc := 1112) 1291 g dL_law_1112 rfl (fun _ => ?_) (fun c => absurd rfl c)
  refine v_iinc (pc := 1291) _ _ g dL_law_1291 rfl rfl hp.nL.symm rfl ?_
  refine v_loE [some (.ref 3000), some (.ref 0), some (.ref 39), some (.int (nI (i + 6)))] (by show [_, _, _, some (Value.int (nI i + nI 6))] = _; rw [nI_add]; rfl) ?_
  refine v_goto (pc := 1294) 18 g dL_law_1294 rfl ?_
  exact ih _ _ _ _ _ _ _ _ _ _ _ _ _ _ _ _ _ _ _ _ _ _ _ _ _ _ _ _ _ _ (h)
set_option maxRecDepth 20000 in
set_option maxHeartbeats 2000000 in
theorem lc_28 {S : St} {u0 : Int32} {T : St} {u1 : Int32} {K : St} {u2 : Int32} {tb : Nat → Int32} {tl : Nat} {ni : Int32} {ns : Int32} {ne : Int32} {nk : Int32} {nv : Int32} {wi : Nat → Int32} {si : Nat → Int32} {nu : Nat → Int64} {fn : Nat → Int32} {kp : Int32} {of : Int32} {tr : Nat → Int32} {b1 : Nat → Int32} {so : Int32} {be : Int32} {te : Int32} {wo : Int64} {va : Int32} {gd : Int32} {le : Nat → Int64} {im : Nat → Int32} {bf : Nat → Int32} {X : VX} {L i : Nat} {xs : Nat → Int32} (g : VG X code RL 13) (hp : LawP L xs X) (hL : L ≤ 3072) (hi : i + 6 ≤ L) (h : LInv S K tb tl si im kp) (ih : Lp X (i + 6)) : V X 1117 [some (.ref 3000), some (.ref 0), some (.ref 39), some (.int (nI i))] [] (xW S u0 T u1 K u2 tb tl ni ns ne nk nv wi si nu fn kp ++ mX (rowOf S) fn of tr b1 tb tl so be te wo va gd wi si nu le im bf kp) := by
  refine v_aload_n (pc := 1117) 1 g dL_law_1117 rfl rfl ?_
  refine v_aload_n (pc := 1118) 0 g dL_law_1118 rfl rfl ?_
  refine v_iload_n (pc := 1119) 3 g dL_law_1119 rfl rfl ?_
  refine v_iconst (pc := 1120) (v := 1) g dL_law_1120 (by decide) ?_
  refine v_iadd (pc := 1121) g dL_law_1121 ?_
  refine v_sld (pc := 1122) (i + 1) g hp dL_law_1122 (nI_add i 1) (by omega) hL ?_
  refine v_cV (pc := 1123) g dL_law_1123 lk_L_133 (Nat.le_of_ble_eq_true rfl) (Runs.left (c_X4_lays _ h.1.1 h.2.2.2.2.1) _ rfl (xW_cl _ _ _ _ _ _ _ _ _ _ _ _ _ _ _ _ _ _) rfl) rfl rfl rfl rfl (Nat.le_of_ble_eq_true rfl) (fun r1 w1 hq => ?_)
  obtain ⟨_, _, ⟨rfl, rfl⟩, -, rfl, rfl⟩ := hq
  refine v_stE [.int (r_28 S wi si nu (xs (i + 1)))] rfl ?_
  refine v_w (xW (s_28 S wi si nu (xs (i + 1))) u0 T u1 K u2 tb tl ni ns ne nk nv wi si nu (f_28 wi fn (xs (i + 1))) kp ++ mX (rowOf S) fn of tr b1 tb tl so be te wo va gd wi si nu le im bf kp) (by rw [xW_cl]) ?_
  refine v_aload_n (pc := 1126) 2 g dL_law_1126 rfl rfl ?_
  refine v_aload_n (pc := 1127) 0 g dL_law_1127 rfl rfl ?_
  refine v_iload_n (pc := 1128) 3 g dL_law_1128 rfl rfl ?_
  refine v_iconst (pc := 1129) (v := 1) g dL_law_1129 (by decide) ?_
  refine v_iadd (pc := 1130) g dL_law_1130 ?_
  refine v_sld (pc := 1131) (i + 1) g hp dL_law_1131 (nI_add i 1) (by omega) hL ?_
  refine v_cV (pc := 1132) g dL_law_1132 lk_L_136 (Nat.le_of_ble_eq_true rfl) (Runs.right (c_X5_lays S _ h.1.1 h.2.2.2.2.1) _ rfl rfl (mW_cl _ _ _ _ _ _ _ _ _ _ _ _ _ _ _ _ _ _ _ _) rfl) rfl rfl rfl rfl (Nat.le_of_ble_eq_true rfl) (fun r1 w1 hq => ?_)
  obtain ⟨_, _, ⟨rfl, rfl⟩, -, rfl, rfl⟩ := hq
  refine v_stE [.int (r_28 S wi si nu (xs (i + 1))), .int (r_28 S wi si nu (xs (i + 1)))] rfl ?_
  refine v_w (xW (s_28 S wi si nu (xs (i + 1))) u0 T u1 K u2 tb tl ni ns ne nk nv wi si nu (f_28 wi fn (xs (i + 1))) kp ++ mX (rowOf (s_28 S wi si nu (xs (i + 1)))) (f_28 wi fn (xs (i + 1))) of tr b1 tb tl so be te wo va gd wi si nu le im bf kp) (by rw [mW_cl]) ?_
  refine v_icmp_eq (pc := 1135) 1291 g dL_law_1135 rfl (fun _ => ?_) (fun c => absurd rfl c)
  refine v_iinc (pc := 1291) _ _ g dL_law_1291 rfl rfl hp.nL.symm rfl ?_
  refine v_loE [some (.ref 3000), some (.ref 0), some (.ref 39), some (.int (nI (i + 6)))] (by show [_, _, _, some (Value.int (nI i + nI 6))] = _; rw [nI_add]; rfl) ?_
  refine v_goto (pc := 1294) 18 g dL_law_1294 rfl ?_
  exact ih _ _ _ _ _ _ _ _ _ _ _ _ _ _ _ _ _ _ _ _ _ _ _ _ _ _ _ _ _ _ (⟨h.1.s_28 _ _ _ _, h.2⟩)
set_option maxRecDepth 20000 in
set_option maxHeartbeats 2000000 in
theorem lc_29 {S : St} {u0 : Int32} {T : St} {u1 : Int32} {K : St} {u2 : Int32} {tb : Nat → Int32} {tl : Nat} {ni : Int32} {ns : Int32} {ne : Int32} {nk : Int32} {nv : Int32} {wi : Nat → Int32} {si : Nat → Int32} {nu : Nat → Int64} {fn : Nat → Int32} {kp : Int32} {of : Int32} {tr : Nat → Int32} {b1 : Nat → Int32} {so : Int32} {be : Int32} {te : Int32} {wo : Int64} {va : Int32} {gd : Int32} {le : Nat → Int64} {im : Nat → Int32} {bf : Nat → Int32} {X : VX} {L i : Nat} {xs : Nat → Int32} (g : VG X code RL 13) (hp : LawP L xs X) (hL : L ≤ 3072) (hi : i + 6 ≤ L) (h : LInv S K tb tl si im kp) (ih : Lp X (i + 6)) : V X 1140 [some (.ref 3000), some (.ref 0), some (.ref 39), some (.int (nI i))] [] (xW S u0 T u1 K u2 tb tl ni ns ne nk nv wi si nu fn kp ++ mX (rowOf S) fn of tr b1 tb tl so be te wo va gd wi si nu le im bf kp) := by
  refine v_aload_n (pc := 1140) 1 g dL_law_1140 rfl rfl ?_
  refine v_aload_n (pc := 1141) 0 g dL_law_1141 rfl rfl ?_
  refine v_iload_n (pc := 1142) 3 g dL_law_1142 rfl rfl ?_
  refine v_iconst (pc := 1143) (v := 1) g dL_law_1143 (by decide) ?_
  refine v_iadd (pc := 1144) g dL_law_1144 ?_
  refine v_sld (pc := 1145) (i + 1) g hp dL_law_1145 (nI_add i 1) (by omega) hL ?_
  refine v_aload_n (pc := 1146) 0 g dL_law_1146 rfl rfl ?_
  refine v_iload_n (pc := 1147) 3 g dL_law_1147 rfl rfl ?_
  refine v_iconst (pc := 1148) (v := 2) g dL_law_1148 (by decide) ?_
  refine v_iadd (pc := 1149) g dL_law_1149 ?_
  refine v_sld (pc := 1150) (i + 2) g hp dL_law_1150 (nI_add i 2) (by omega) hL ?_
  refine v_cV (pc := 1151) g dL_law_1151 lk_L_137 (Nat.le_of_ble_eq_true rfl) (Runs.left (c_X4_book _ _ h.1.1 h.2.2.2.2.1) _ rfl (xW_cl _ _ _ _ _ _ _ _ _ _ _ _ _ _ _ _ _ _) rfl) rfl rfl rfl rfl (Nat.le_of_ble_eq_true rfl) (fun r1 w1 hq => ?_)
  obtain ⟨_, _, ⟨T1, v1, rfl, rfl⟩, -, rfl, rfl⟩ := hq
  refine v_stE [.int (r_29 S wi si (xs (i + 1)) (xs (i + 2)))] rfl ?_
  refine v_w (xW S u0 T1 v1 K u2 tb tl ni ns ne nk nv wi si (q_29 S wi si nu (xs (i + 1)) (xs (i + 2))) (f_29 S wi fn (xs (i + 1)) (xs (i + 2))) kp ++ mX (rowOf S) fn of tr b1 tb tl so be te wo va gd wi si nu le im bf kp) (by rw [xW_cl]) ?_
  refine v_aload_n (pc := 1154) 2 g dL_law_1154 rfl rfl ?_
  refine v_aload_n (pc := 1155) 0 g dL_law_1155 rfl rfl ?_
  refine v_iload_n (pc := 1156) 3 g dL_law_1156 rfl rfl ?_
  refine v_iconst (pc := 1157) (v := 1) g dL_law_1157 (by decide) ?_
  refine v_iadd (pc := 1158) g dL_law_1158 ?_
  refine v_sld (pc := 1159) (i + 1) g hp dL_law_1159 (nI_add i 1) (by omega) hL ?_
  refine v_aload_n (pc := 1160) 0 g dL_law_1160 rfl rfl ?_
  refine v_iload_n (pc := 1161) 3 g dL_law_1161 rfl rfl ?_
  refine v_iconst (pc := 1162) (v := 2) g dL_law_1162 (by decide) ?_
  refine v_iadd (pc := 1163) g dL_law_1163 ?_
  refine v_sld (pc := 1164) (i + 2) g hp dL_law_1164 (nI_add i 2) (by omega) hL ?_
  refine v_cV (pc := 1165) g dL_law_1165 lk_L_140 (Nat.le_of_ble_eq_true rfl) (Runs.right (c_X5_book S _ _ h.1.1 h.2.2.2.2.1) _ rfl rfl (mW_cl _ _ _ _ _ _ _ _ _ _ _ _ _ _ _ _ _ _ _ _) rfl) rfl rfl rfl rfl (Nat.le_of_ble_eq_true rfl) (fun r1 w1 hq => ?_)
  obtain ⟨_, _, ⟨o1, t1, rfl, rfl⟩, -, rfl, rfl⟩ := hq
  refine v_stE [.int (r_29 S wi si (xs (i + 1)) (xs (i + 2))), .int (r_29 S wi si (xs (i + 1)) (xs (i + 2)))] rfl ?_
  refine v_w (xW S u0 T1 v1 K u2 tb tl ni ns ne nk nv wi si (q_29 S wi si nu (xs (i + 1)) (xs (i + 2))) (f_29 S wi fn (xs (i + 1)) (xs (i + 2))) kp ++ mX (rowOf S) (f_29 S wi fn (xs (i + 1)) (xs (i + 2))) o1 t1 b1 tb tl so be te wo va gd wi si (q_29 S wi si nu (xs (i + 1)) (xs (i + 2))) le im bf kp) (by rw [mW_cl]) ?_
  refine v_icmp_eq (pc := 1168) 1291 g dL_law_1168 rfl (fun _ => ?_) (fun c => absurd rfl c)
  refine v_iinc (pc := 1291) _ _ g dL_law_1291 rfl rfl hp.nL.symm rfl ?_
  refine v_loE [some (.ref 3000), some (.ref 0), some (.ref 39), some (.int (nI (i + 6)))] (by show [_, _, _, some (Value.int (nI i + nI 6))] = _; rw [nI_add]; rfl) ?_
  refine v_goto (pc := 1294) 18 g dL_law_1294 rfl ?_
  exact ih _ _ _ _ _ _ _ _ _ _ _ _ _ _ _ _ _ _ _ _ _ _ _ _ _ _ _ _ _ _ (h)
set_option maxRecDepth 20000 in
set_option maxHeartbeats 2000000 in
theorem lc_30 {S : St} {u0 : Int32} {T : St} {u1 : Int32} {K : St} {u2 : Int32} {tb : Nat → Int32} {tl : Nat} {ni : Int32} {ns : Int32} {ne : Int32} {nk : Int32} {nv : Int32} {wi : Nat → Int32} {si : Nat → Int32} {nu : Nat → Int64} {fn : Nat → Int32} {kp : Int32} {of : Int32} {tr : Nat → Int32} {b1 : Nat → Int32} {so : Int32} {be : Int32} {te : Int32} {wo : Int64} {va : Int32} {gd : Int32} {le : Nat → Int64} {im : Nat → Int32} {bf : Nat → Int32} {X : VX} {L i : Nat} {xs : Nat → Int32} (g : VG X code RL 13) (hp : LawP L xs X) (hL : L ≤ 3072) (hi : i + 6 ≤ L) (h : LInv S K tb tl si im kp) (ih : Lp X (i + 6)) : V X 1173 [some (.ref 3000), some (.ref 0), some (.ref 39), some (.int (nI i))] [] (xW S u0 T u1 K u2 tb tl ni ns ne nk nv wi si nu fn kp ++ mX (rowOf S) fn of tr b1 tb tl so be te wo va gd wi si nu le im bf kp) := by
  refine v_aload_n (pc := 1173) 1 g dL_law_1173 rfl rfl ?_
  refine v_aload_n (pc := 1174) 0 g dL_law_1174 rfl rfl ?_
  refine v_iload_n (pc := 1175) 3 g dL_law_1175 rfl rfl ?_
  refine v_iconst (pc := 1176) (v := 1) g dL_law_1176 (by decide) ?_
  refine v_iadd (pc := 1177) g dL_law_1177 ?_
  refine v_sld (pc := 1178) (i + 1) g hp dL_law_1178 (nI_add i 1) (by omega) hL ?_
  refine v_aload_n (pc := 1179) 0 g dL_law_1179 rfl rfl ?_
  refine v_iload_n (pc := 1180) 3 g dL_law_1180 rfl rfl ?_
  refine v_iconst (pc := 1181) (v := 2) g dL_law_1181 (by decide) ?_
  refine v_iadd (pc := 1182) g dL_law_1182 ?_
  refine v_sld (pc := 1183) (i + 2) g hp dL_law_1183 (nI_add i 2) (by omega) hL ?_
  refine v_cV (pc := 1184) g dL_law_1184 lk_L_141 (Nat.le_of_ble_eq_true rfl) (Runs.left (c_X4_read _ _ h.1.1 h.2.2.2.2.1) _ rfl (xW_cl _ _ _ _ _ _ _ _ _ _ _ _ _ _ _ _ _ _) rfl) rfl rfl rfl rfl (Nat.le_of_ble_eq_true rfl) (fun r1 w1 hq => ?_)
  obtain ⟨_, _, ⟨T1, v1, rfl, rfl⟩, -, rfl, rfl⟩ := hq
  refine v_stE [.int (r_30 S wi si nu (xs (i + 1)) (xs (i + 2)))] rfl ?_
  refine v_w (xW S u0 T1 v1 K u2 tb tl ni ns ne nk nv wi si nu (f_29 S wi fn (xs (i + 1)) (xs (i + 2))) kp ++ mX (rowOf S) fn of tr b1 tb tl so be te wo va gd wi si nu le im bf kp) (by rw [xW_cl]) ?_
  refine v_aload_n (pc := 1187) 2 g dL_law_1187 rfl rfl ?_
  refine v_aload_n (pc := 1188) 0 g dL_law_1188 rfl rfl ?_
  refine v_iload_n (pc := 1189) 3 g dL_law_1189 rfl rfl ?_
  refine v_iconst (pc := 1190) (v := 1) g dL_law_1190 (by decide) ?_
  refine v_iadd (pc := 1191) g dL_law_1191 ?_
  refine v_sld (pc := 1192) (i + 1) g hp dL_law_1192 (nI_add i 1) (by omega) hL ?_
  refine v_aload_n (pc := 1193) 0 g dL_law_1193 rfl rfl ?_
  refine v_iload_n (pc := 1194) 3 g dL_law_1194 rfl rfl ?_
  refine v_iconst (pc := 1195) (v := 2) g dL_law_1195 (by decide) ?_
  refine v_iadd (pc := 1196) g dL_law_1196 ?_
  refine v_sld (pc := 1197) (i + 2) g hp dL_law_1197 (nI_add i 2) (by omega) hL ?_
  refine v_cV (pc := 1198) g dL_law_1198 lk_L_144 (Nat.le_of_ble_eq_true rfl) (Runs.right (c_X5_read S _ _ h.1.1 h.2.2.2.2.1) _ rfl rfl (mW_cl _ _ _ _ _ _ _ _ _ _ _ _ _ _ _ _ _ _ _ _) rfl) rfl rfl rfl rfl (Nat.le_of_ble_eq_true rfl) (fun r1 w1 hq => ?_)
  obtain ⟨_, _, ⟨o1, t1, rfl, rfl⟩, -, rfl, rfl⟩ := hq
  refine v_stE [.int (r_30 S wi si nu (xs (i + 1)) (xs (i + 2))), .int (r_30 S wi si nu (xs (i + 1)) (xs (i + 2)))] rfl ?_
  refine v_w (xW S u0 T1 v1 K u2 tb tl ni ns ne nk nv wi si nu (f_29 S wi fn (xs (i + 1)) (xs (i + 2))) kp ++ mX (rowOf S) (f_29 S wi fn (xs (i + 1)) (xs (i + 2))) o1 tr t1 tb tl so be te wo va gd wi si nu le im bf kp) (by rw [mW_cl]) ?_
  refine v_icmp_eq (pc := 1201) 1291 g dL_law_1201 rfl (fun _ => ?_) (fun c => absurd rfl c)
  refine v_iinc (pc := 1291) _ _ g dL_law_1291 rfl rfl hp.nL.symm rfl ?_
  refine v_loE [some (.ref 3000), some (.ref 0), some (.ref 39), some (.int (nI (i + 6)))] (by show [_, _, _, some (Value.int (nI i + nI 6))] = _; rw [nI_add]; rfl) ?_
  refine v_goto (pc := 1294) 18 g dL_law_1294 rfl ?_
  exact ih _ _ _ _ _ _ _ _ _ _ _ _ _ _ _ _ _ _ _ _ _ _ _ _ _ _ _ _ _ _ (h)
set_option maxRecDepth 20000 in
set_option maxHeartbeats 2000000 in
theorem lc_31 {S : St} {u0 : Int32} {T : St} {u1 : Int32} {K : St} {u2 : Int32} {tb : Nat → Int32} {tl : Nat} {ni : Int32} {ns : Int32} {ne : Int32} {nk : Int32} {nv : Int32} {wi : Nat → Int32} {si : Nat → Int32} {nu : Nat → Int64} {fn : Nat → Int32} {kp : Int32} {of : Int32} {tr : Nat → Int32} {b1 : Nat → Int32} {so : Int32} {be : Int32} {te : Int32} {wo : Int64} {va : Int32} {gd : Int32} {le : Nat → Int64} {im : Nat → Int32} {bf : Nat → Int32} {X : VX} {L i : Nat} {xs : Nat → Int32} (g : VG X code RL 13) (hp : LawP L xs X) (hL : L ≤ 3072) (hi : i + 6 ≤ L) (h : LInv S K tb tl si im kp) (ih : Lp X (i + 6)) : V X 1206 [some (.ref 3000), some (.ref 0), some (.ref 39), some (.int (nI i))] [] (xW S u0 T u1 K u2 tb tl ni ns ne nk nv wi si nu fn kp ++ mX (rowOf S) fn of tr b1 tb tl so be te wo va gd wi si nu le im bf kp) := by
  refine v_aload_n (pc := 1206) 1 g dL_law_1206 rfl rfl ?_
  refine v_cV (pc := 1207) g dL_law_1207 lk_L_145 (Nat.le_of_ble_eq_true rfl) (Runs.left (c_X4_image) _ rfl (xW_cl _ _ _ _ _ _ _ _ _ _ _ _ _ _ _ _ _ _) rfl) rfl rfl rfl rfl (Nat.le_of_ble_eq_true rfl) (fun r1 w1 hq => ?_)
  obtain ⟨_, _, ⟨rfl, rfl⟩, -, rfl, rfl⟩ := hq
  refine v_stE [.int (1)] rfl ?_
  refine v_w (xW S u0 T u1 S u2 tb tl ni ns ne nk nv wi si nu fn 1 ++ mX (rowOf S) fn of tr b1 tb tl so be te wo va gd wi si nu le im bf kp) (by rw [xW_cl]) ?_
  refine v_aload_n (pc := 1210) 2 g dL_law_1210 rfl rfl ?_
  refine v_cV (pc := 1211) g dL_law_1211 lk_L_148 (Nat.le_of_ble_eq_true rfl) (Runs.right (c_X5_image (rowOf S)) _ rfl rfl (mW_cl _ _ _ _ _ _ _ _ _ _ _ _ _ _ _ _ _ _ _ _) rfl) rfl rfl rfl rfl (Nat.le_of_ble_eq_true rfl) (fun r1 w1 hq => ?_)
  obtain ⟨_, _, ⟨rfl, rfl⟩, -, rfl, rfl⟩ := hq
  refine v_stE [.int (1), .int (1)] rfl ?_
  refine v_w (xW S u0 T u1 S u2 tb tl ni ns ne nk nv wi si nu fn 1 ++ mX (rowOf S) fn of tr b1 tb tl so be te wo va gd wi si nu le (rowOf S) bf 1) (by rw [mW_cl]) ?_
  refine v_icmp_eq (pc := 1214) 1291 g dL_law_1214 rfl (fun _ => ?_) (fun c => absurd rfl c)
  refine v_iinc (pc := 1291) _ _ g dL_law_1291 rfl rfl hp.nL.symm rfl ?_
  refine v_loE [some (.ref 3000), some (.ref 0), some (.ref 39), some (.int (nI (i + 6)))] (by show [_, _, _, some (Value.int (nI i + nI 6))] = _; rw [nI_add]; rfl) ?_
  refine v_goto (pc := 1294) 18 g dL_law_1294 rfl ?_
  exact ih _ _ _ _ _ _ _ _ _ _ _ _ _ _ _ _ _ _ _ _ _ _ _ _ _ _ _ _ _ _ (⟨h.1, h.1, h.2.2.1, h.2.2.2.1, h.2.2.2.2.1, fun _ => rfl⟩)
set_option maxRecDepth 20000 in
set_option maxHeartbeats 2000000 in
theorem lc_32 {S : St} {u0 : Int32} {T : St} {u1 : Int32} {K : St} {u2 : Int32} {tb : Nat → Int32} {tl : Nat} {ni : Int32} {ns : Int32} {ne : Int32} {nk : Int32} {nv : Int32} {wi : Nat → Int32} {si : Nat → Int32} {nu : Nat → Int64} {fn : Nat → Int32} {kp : Int32} {of : Int32} {tr : Nat → Int32} {b1 : Nat → Int32} {so : Int32} {be : Int32} {te : Int32} {wo : Int64} {va : Int32} {gd : Int32} {le : Nat → Int64} {im : Nat → Int32} {bf : Nat → Int32} {X : VX} {L i : Nat} {xs : Nat → Int32} (g : VG X code RL 13) (hp : LawP L xs X) (hL : L ≤ 3072) (hi : i + 6 ≤ L) (h : LInv S K tb tl si im kp) (ih : Lp X (i + 6)) : V X 1219 [some (.ref 3000), some (.ref 0), some (.ref 39), some (.int (nI i))] [] (xW S u0 T u1 K u2 tb tl ni ns ne nk nv wi si nu fn kp ++ mX (rowOf S) fn of tr b1 tb tl so be te wo va gd wi si nu le im bf kp) := by
  refine v_aload_n (pc := 1219) 1 g dL_law_1219 rfl rfl ?_
  refine v_cV (pc := 1220) g dL_law_1220 lk_L_149 (Nat.le_of_ble_eq_true rfl) (Runs.left (c_X4_undo) _ rfl (xW_cl _ _ _ _ _ _ _ _ _ _ _ _ _ _ _ _ _ _) rfl) rfl rfl rfl rfl (Nat.le_of_ble_eq_true rfl) (fun r1 w1 hq => ?_)
  obtain ⟨_, _, ⟨rfl, rfl⟩, -, rfl, rfl⟩ := hq
  refine v_stE [.int (r_32 K kp)] rfl ?_
  refine v_w (xW (s_32 S K kp) u0 T u1 K u2 tb tl ni ns ne nk nv wi si nu (f_32 kp fn) kp ++ mX (rowOf S) fn of tr b1 tb tl so be te wo va gd wi si nu le im bf kp) (by rw [xW_cl]) ?_
  refine v_aload_n (pc := 1223) 2 g dL_law_1223 rfl rfl ?_
  refine v_cV (pc := 1224) g dL_law_1224 lk_L_152 (Nat.le_of_ble_eq_true rfl) (Runs.right (c_X5_undo S K h.2.2.2.2.2) _ rfl rfl (mW_cl _ _ _ _ _ _ _ _ _ _ _ _ _ _ _ _ _ _ _ _) rfl) rfl rfl rfl rfl (Nat.le_of_ble_eq_true rfl) (fun r1 w1 hq => ?_)
  obtain ⟨_, _, ⟨rfl, rfl⟩, -, rfl, rfl⟩ := hq
  refine v_stE [.int (r_32 K kp), .int (r_32 K kp)] rfl ?_
  refine v_w (xW (s_32 S K kp) u0 T u1 K u2 tb tl ni ns ne nk nv wi si nu (f_32 kp fn) kp ++ mX (rowOf (s_32 S K kp)) (f_32 kp fn) of tr b1 tb tl so be te wo va gd wi si nu le im bf kp) (by rw [mW_cl]) ?_
  refine v_icmp_eq (pc := 1227) 1291 g dL_law_1227 rfl (fun _ => ?_) (fun c => absurd rfl c)
  refine v_iinc (pc := 1291) _ _ g dL_law_1291 rfl rfl hp.nL.symm rfl ?_
  refine v_loE [some (.ref 3000), some (.ref 0), some (.ref 39), some (.int (nI (i + 6)))] (by show [_, _, _, some (Value.int (nI i + nI 6))] = _; rw [nI_add]; rfl) ?_
  refine v_goto (pc := 1294) 18 g dL_law_1294 rfl ?_
  exact ih _ _ _ _ _ _ _ _ _ _ _ _ _ _ _ _ _ _ _ _ _ _ _ _ _ _ _ _ _ _ (⟨h.1.s_32 h.2.1 _, h.2⟩)
set_option maxRecDepth 20000 in
set_option maxHeartbeats 2000000 in
theorem lc_33 {S : St} {u0 : Int32} {T : St} {u1 : Int32} {K : St} {u2 : Int32} {tb : Nat → Int32} {tl : Nat} {ni : Int32} {ns : Int32} {ne : Int32} {nk : Int32} {nv : Int32} {wi : Nat → Int32} {si : Nat → Int32} {nu : Nat → Int64} {fn : Nat → Int32} {kp : Int32} {of : Int32} {tr : Nat → Int32} {b1 : Nat → Int32} {so : Int32} {be : Int32} {te : Int32} {wo : Int64} {va : Int32} {gd : Int32} {le : Nat → Int64} {im : Nat → Int32} {bf : Nat → Int32} {X : VX} {L i : Nat} {xs : Nat → Int32} (g : VG X code RL 13) (hp : LawP L xs X) (hL : L ≤ 3072) (hi : i + 6 ≤ L) (h : LInv S K tb tl si im kp) (ih : Lp X (i + 6)) : V X 1232 [some (.ref 3000), some (.ref 0), some (.ref 39), some (.int (nI i))] [] (xW S u0 T u1 K u2 tb tl ni ns ne nk nv wi si nu fn kp ++ mX (rowOf S) fn of tr b1 tb tl so be te wo va gd wi si nu le im bf kp) := by
  refine v_aload_n (pc := 1232) 1 g dL_law_1232 rfl rfl ?_
  refine v_cV (pc := 1233) g dL_law_1233 lk_L_153 (Nat.le_of_ble_eq_true rfl) (Runs.left (c_X4_tear) _ rfl (xW_cl _ _ _ _ _ _ _ _ _ _ _ _ _ _ _ _ _ _) rfl) rfl rfl rfl rfl (Nat.le_of_ble_eq_true rfl) (fun r1 w1 hq => ?_)
  obtain ⟨_, _, ⟨rfl, rfl⟩, -, rfl, rfl⟩ := hq
  refine v_stE [.int (r_33 kp)] rfl ?_
  refine v_w (xW S u0 T u1 K u2 tb tl ni ns ne nk nv wi si nu fn 0 ++ mX (rowOf S) fn of tr b1 tb tl so be te wo va gd wi si nu le im bf kp) (by rw [xW_cl]) ?_
  refine v_aload_n (pc := 1236) 2 g dL_law_1236 rfl rfl ?_
  refine v_cV (pc := 1237) g dL_law_1237 lk_L_156 (Nat.le_of_ble_eq_true rfl) (Runs.right (c_X5_tear (rowOf S)) _ rfl rfl (mW_cl _ _ _ _ _ _ _ _ _ _ _ _ _ _ _ _ _ _ _ _) rfl) rfl rfl rfl rfl (Nat.le_of_ble_eq_true rfl) (fun r1 w1 hq => ?_)
  obtain ⟨_, _, ⟨rfl, rfl⟩, -, rfl, rfl⟩ := hq
  refine v_stE [.int (r_33 kp), .int (r_33 kp)] rfl ?_
  refine v_w (xW S u0 T u1 K u2 tb tl ni ns ne nk nv wi si nu fn 0 ++ mX (rowOf S) fn of tr b1 tb tl so be te wo va gd wi si nu le im bf 0) (by rw [mW_cl]) ?_
  refine v_icmp_eq (pc := 1240) 1291 g dL_law_1240 rfl (fun _ => ?_) (fun c => absurd rfl c)
  refine v_iinc (pc := 1291) _ _ g dL_law_1291 rfl rfl hp.nL.symm rfl ?_
  refine v_loE [some (.ref 3000), some (.ref 0), some (.ref 39), some (.int (nI (i + 6)))] (by show [_, _, _, some (Value.int (nI i + nI 6))] = _; rw [nI_add]; rfl) ?_
  refine v_goto (pc := 1294) 18 g dL_law_1294 rfl ?_
  exact ih _ _ _ _ _ _ _ _ _ _ _ _ _ _ _ _ _ _ _ _ _ _ _ _ _ _ _ _ _ _ (⟨h.1, h.2.1, h.2.2.1, h.2.2.2.1, h.2.2.2.2.1, fun z => absurd rfl z⟩)
set_option maxRecDepth 20000 in
set_option maxHeartbeats 2000000 in
theorem lc_34 {S : St} {u0 : Int32} {T : St} {u1 : Int32} {K : St} {u2 : Int32} {tb : Nat → Int32} {tl : Nat} {ni : Int32} {ns : Int32} {ne : Int32} {nk : Int32} {nv : Int32} {wi : Nat → Int32} {si : Nat → Int32} {nu : Nat → Int64} {fn : Nat → Int32} {kp : Int32} {of : Int32} {tr : Nat → Int32} {b1 : Nat → Int32} {so : Int32} {be : Int32} {te : Int32} {wo : Int64} {va : Int32} {gd : Int32} {le : Nat → Int64} {im : Nat → Int32} {bf : Nat → Int32} {X : VX} {L i : Nat} {xs : Nat → Int32} (g : VG X code RL 13) (hp : LawP L xs X) (hL : L ≤ 3072) (hi : i + 6 ≤ L) (h : LInv S K tb tl si im kp) (ih : Lp X (i + 6)) : V X 1245 [some (.ref 3000), some (.ref 0), some (.ref 39), some (.int (nI i))] [] (xW S u0 T u1 K u2 tb tl ni ns ne nk nv wi si nu fn kp ++ mX (rowOf S) fn of tr b1 tb tl so be te wo va gd wi si nu le im bf kp) := by
  refine v_aload_n (pc := 1245) 1 g dL_law_1245 rfl rfl ?_
  refine v_aload_n (pc := 1246) 0 g dL_law_1246 rfl rfl ?_
  refine v_iload_n (pc := 1247) 3 g dL_law_1247 rfl rfl ?_
  refine v_iconst (pc := 1248) (v := 1) g dL_law_1248 (by decide) ?_
  refine v_iadd (pc := 1249) g dL_law_1249 ?_
  refine v_sld (pc := 1250) (i + 1) g hp dL_law_1250 (nI_add i 1) (by omega) hL ?_
  refine v_cV (pc := 1251) g dL_law_1251 lk_L_157 (Nat.le_of_ble_eq_true rfl) (Runs.left (c_X4_count _ h.1.1) _ rfl (xW_cl _ _ _ _ _ _ _ _ _ _ _ _ _ _ _ _ _ _) rfl) rfl rfl rfl rfl (Nat.le_of_ble_eq_true rfl) (fun r1 w1 hq => ?_)
  obtain ⟨_, _, ⟨rfl, rfl⟩, -, rfl, rfl⟩ := hq
  refine v_stE [.int (r_34 S tl (xs (i + 1)))] rfl ?_
  refine v_w (xW S u0 T u1 K u2 tb tl ni ns ne nk nv wi si nu (fdI (inR (xs (i + 1)) 0 3) fn 0) kp ++ mX (rowOf S) fn of tr b1 tb tl so be te wo va gd wi si nu le im bf kp) (by rw [xW_cl]) ?_
  refine v_aload_n (pc := 1254) 2 g dL_law_1254 rfl rfl ?_
  refine v_aload_n (pc := 1255) 0 g dL_law_1255 rfl rfl ?_
  refine v_iload_n (pc := 1256) 3 g dL_law_1256 rfl rfl ?_
  refine v_iconst (pc := 1257) (v := 1) g dL_law_1257 (by decide) ?_
  refine v_iadd (pc := 1258) g dL_law_1258 ?_
  refine v_sld (pc := 1259) (i + 1) g hp dL_law_1259 (nI_add i 1) (by omega) hL ?_
  refine v_cV (pc := 1260) g dL_law_1260 lk_L_160 (Nat.le_of_ble_eq_true rfl) (Runs.right (c_X5_count S _ h.1.1) _ rfl rfl (mW_cl _ _ _ _ _ _ _ _ _ _ _ _ _ _ _ _ _ _ _ _) rfl) rfl rfl rfl rfl (Nat.le_of_ble_eq_true rfl) (fun r1 w1 hq => ?_)
  obtain ⟨_, _, ⟨rfl, rfl⟩, -, rfl, rfl⟩ := hq
  refine v_stE [.int (r_34 S tl (xs (i + 1))), .int (r_34 S tl (xs (i + 1)))] rfl ?_
  refine v_w (xW S u0 T u1 K u2 tb tl ni ns ne nk nv wi si nu (fdI (inR (xs (i + 1)) 0 3) fn 0) kp ++ mX (rowOf S) (fdI (inR (xs (i + 1)) 0 3) fn 0) of tr b1 tb tl so be te wo va gd wi si nu le im bf kp) (by rw [mW_cl]) ?_
  refine v_icmp_eq (pc := 1263) 1291 g dL_law_1263 rfl (fun _ => ?_) (fun c => absurd rfl c)
  refine v_iinc (pc := 1291) _ _ g dL_law_1291 rfl rfl hp.nL.symm rfl ?_
  refine v_loE [some (.ref 3000), some (.ref 0), some (.ref 39), some (.int (nI (i + 6)))] (by show [_, _, _, some (Value.int (nI i + nI 6))] = _; rw [nI_add]; rfl) ?_
  refine v_goto (pc := 1294) 18 g dL_law_1294 rfl ?_
  exact ih _ _ _ _ _ _ _ _ _ _ _ _ _ _ _ _ _ _ _ _ _ _ _ _ _ _ _ _ _ _ (h)
set_option maxRecDepth 20000 in
set_option maxHeartbeats 2000000 in
theorem lc_35 {S : St} {u0 : Int32} {T : St} {u1 : Int32} {K : St} {u2 : Int32} {tb : Nat → Int32} {tl : Nat} {ni : Int32} {ns : Int32} {ne : Int32} {nk : Int32} {nv : Int32} {wi : Nat → Int32} {si : Nat → Int32} {nu : Nat → Int64} {fn : Nat → Int32} {kp : Int32} {of : Int32} {tr : Nat → Int32} {b1 : Nat → Int32} {so : Int32} {be : Int32} {te : Int32} {wo : Int64} {va : Int32} {gd : Int32} {le : Nat → Int64} {im : Nat → Int32} {bf : Nat → Int32} {X : VX} {L i : Nat} {xs : Nat → Int32} (g : VG X code RL 13) (hp : LawP L xs X) (hL : L ≤ 3072) (hi : i + 6 ≤ L) (h : LInv S K tb tl si im kp) (ih : Lp X (i + 6)) : V X 1268 [some (.ref 3000), some (.ref 0), some (.ref 39), some (.int (nI i))] [] (xW S u0 T u1 K u2 tb tl ni ns ne nk nv wi si nu fn kp ++ mX (rowOf S) fn of tr b1 tb tl so be te wo va gd wi si nu le im bf kp) := by
  refine v_aload_n (pc := 1268) 1 g dL_law_1268 rfl rfl ?_
  refine v_aload_n (pc := 1269) 0 g dL_law_1269 rfl rfl ?_
  refine v_iload_n (pc := 1270) 3 g dL_law_1270 rfl rfl ?_
  refine v_iconst (pc := 1271) (v := 1) g dL_law_1271 (by decide) ?_
  refine v_iadd (pc := 1272) g dL_law_1272 ?_
  refine v_sld (pc := 1273) (i + 1) g hp dL_law_1273 (nI_add i 1) (by omega) hL ?_
  refine v_cV (pc := 1274) g dL_law_1274 lk_L_161 (Nat.le_of_ble_eq_true rfl) (Runs.left (c_X4_status _) _ rfl (xW_cl _ _ _ _ _ _ _ _ _ _ _ _ _ _ _ _ _ _) rfl) rfl rfl rfl rfl (Nat.le_of_ble_eq_true rfl) (fun r1 w1 hq => ?_)
  obtain ⟨_, _, ⟨rfl, rfl⟩, -, rfl, rfl⟩ := hq
  refine v_stE [.int (r_35 fn (xs (i + 1)))] rfl ?_
  refine v_w (xW S u0 T u1 K u2 tb tl ni ns ne nk nv wi si nu (fdI (inR (xs (i + 1)) (-1) 6) fn 0) kp ++ mX (rowOf S) fn of tr b1 tb tl so be te wo va gd wi si nu le im bf kp) (by rw [xW_cl]) ?_
  refine v_aload_n (pc := 1277) 2 g dL_law_1277 rfl rfl ?_
  refine v_aload_n (pc := 1278) 0 g dL_law_1278 rfl rfl ?_
  refine v_iload_n (pc := 1279) 3 g dL_law_1279 rfl rfl ?_
  refine v_iconst (pc := 1280) (v := 1) g dL_law_1280 (by decide) ?_
  refine v_iadd (pc := 1281) g dL_law_1281 ?_
  refine v_sld (pc := 1282) (i + 1) g hp dL_law_1282 (nI_add i 1) (by omega) hL ?_
  refine v_cV (pc := 1283) g dL_law_1283 lk_L_164 (Nat.le_of_ble_eq_true rfl) (Runs.right (c_X5_status (rowOf S) _) _ rfl rfl (mW_cl _ _ _ _ _ _ _ _ _ _ _ _ _ _ _ _ _ _ _ _) rfl) rfl rfl rfl rfl (Nat.le_of_ble_eq_true rfl) (fun r1 w1 hq => ?_)
  obtain ⟨_, _, ⟨rfl, rfl⟩, -, rfl, rfl⟩ := hq
  refine v_stE [.int (r_35 fn (xs (i + 1))), .int (r_35 fn (xs (i + 1)))] rfl ?_
  refine v_w (xW S u0 T u1 K u2 tb tl ni ns ne nk nv wi si nu (fdI (inR (xs (i + 1)) (-1) 6) fn 0) kp ++ mX (rowOf S) (fdI (inR (xs (i + 1)) (-1) 6) fn 0) of tr b1 tb tl so be te wo va gd wi si nu le im bf kp) (by rw [mW_cl]) ?_
  refine v_icmp_eq (pc := 1286) 1291 g dL_law_1286 rfl (fun _ => ?_) (fun c => absurd rfl c)
  refine v_iinc (pc := 1291) _ _ g dL_law_1291 rfl rfl hp.nL.symm rfl ?_
  refine v_loE [some (.ref 3000), some (.ref 0), some (.ref 39), some (.int (nI (i + 6)))] (by show [_, _, _, some (Value.int (nI i + nI 6))] = _; rw [nI_add]; rfl) ?_
  refine v_goto (pc := 1294) 18 g dL_law_1294 rfl ?_
  exact ih _ _ _ _ _ _ _ _ _ _ _ _ _ _ _ _ _ _ _ _ _ _ _ _ _ _ _ _ _ _ (h)
set_option maxRecDepth 20000 in
set_option maxHeartbeats 4000000 in
theorem law_loop {X : VX} {L mc ms n1 : Nat} {xs : Nat → Int32} (g : VG X code RL 13) (hp : LawP L xs X) (q : QC X mc ms 51 1394 n1) (hL : L ≤ 3072) : ∀ (fu i : Nat), i ≤ L → L - i < fu → Lp X i := by
  intro fu
  induction fu with
  | zero => intro i hi hm; exact absurd hm (Nat.not_lt_zero _)
  | succ fu ih0 =>
    intro i hi hm S u0 T u1 K u2 tb tl ni ns ne nk nv wi si nu fn kp of tr b1 so be te wo va gd le im bf h
    refine v_iload_n (pc := 18) 3 g dL_law_18 rfl rfl ?_
    refine v_aload_n (pc := 19) 0 g dL_law_19 rfl rfl ?_
    refine v_slen (pc := 20) g hp dL_law_20 ?_
    refine v_bipush (pc := 21) (v := 6) g dL_law_21 (by decide) ?_
    refine v_isub (pc := 23) g dL_law_23 ?_
    have hsub : (nI L - 6).toInt = (L : Int) - 6 := by rw [show nI L - 6 = nI L - nI 6 from rfl, pk_sub_toInt (by omega) (by omega)]; rfl
    have hin : (nI i).toInt = (i : Int) := nI_toInt (by omega)
    refine v_icmp_gt (pc := 24) 1297 g dL_law_24 rfl (fun c24 => ?_) (fun c24 => ?_)
    · refine v_iconst (pc := 1297) (v := 1) g dL_law_1297 (by decide) ?_
      exact v_lawret (pc := 1298) g hp q dL_law_1298
    · have h6 : i + 6 ≤ L := by have := i_le.mp (Int32.not_lt.mp c24); rw [hsub, hin] at this; omega
      have ih := ih0 (i + 6) h6 (by omega)
      refine v_aload_n (pc := 27) 0 g dL_law_27 rfl rfl ?_
      refine v_iload_n (pc := 28) 3 g dL_law_28 rfl rfl ?_
      refine v_sld (pc := 29) i g hp dL_law_29 rfl (by omega) hL ?_
      refine v_bipush (pc := 30) (v := 63) g dL_law_30 (by decide) ?_
      refine v_iand (pc := 32) g dL_law_32 ?_
      refine v_top (fun x33 e33 => ?_)
      by_cases t0 : x33.toInt = 0
      · refine v_tin (pc := 33) 0 192 g dL_law_33 t0 (by decide) (by decide) rfl rfl ?_
        exact lc_0 g hp hL h6 h ih
      by_cases t1 : x33.toInt = 1
      · refine v_tin (pc := 33) 1 235 g dL_law_33 t1 (by decide) (by decide) rfl rfl ?_
        exact lc_1 g hp hL h6 h ih
      by_cases t2 : x33.toInt = 2
      · refine v_tin (pc := 33) 2 268 g dL_law_33 t2 (by decide) (by decide) rfl rfl ?_
        exact lc_2 g hp hL h6 h ih
      by_cases t3 : x33.toInt = 3
      · refine v_tin (pc := 33) 3 291 g dL_law_33 t3 (by decide) (by decide) rfl rfl ?_
        exact lc_3 g hp hL h6 h ih
      by_cases t4 : x33.toInt = 4
      · refine v_tin (pc := 33) 4 314 g dL_law_33 t4 (by decide) (by decide) rfl rfl ?_
        exact lc_4 g hp hL h6 h ih
      by_cases t5 : x33.toInt = 5
      · refine v_tin (pc := 33) 5 347 g dL_law_33 t5 (by decide) (by decide) rfl rfl ?_
        exact lc_5 g hp hL h6 h ih
      by_cases t6 : x33.toInt = 6
      · refine v_tin (pc := 33) 6 380 g dL_law_33 t6 (by decide) (by decide) rfl rfl ?_
        exact lc_6 g hp hL h6 h ih
      by_cases t7 : x33.toInt = 7
      · refine v_tin (pc := 33) 7 423 g dL_law_33 t7 (by decide) (by decide) rfl rfl ?_
        exact lc_7 g hp hL h6 h ih
      by_cases t8 : x33.toInt = 8
      · refine v_tin (pc := 33) 8 456 g dL_law_33 t8 (by decide) (by decide) rfl rfl ?_
        exact lc_8 g hp hL h6 h ih
      by_cases t9 : x33.toInt = 9
      · refine v_tin (pc := 33) 9 489 g dL_law_33 t9 (by decide) (by decide) rfl rfl ?_
        exact lc_9 g hp hL h6 h ih
      by_cases t10 : x33.toInt = 10
      · refine v_tin (pc := 33) 10 512 g dL_law_33 t10 (by decide) (by decide) rfl rfl ?_
        exact lc_10 g hp hL h6 h ih
      by_cases t11 : x33.toInt = 11
      · refine v_tin (pc := 33) 11 555 g dL_law_33 t11 (by decide) (by decide) rfl rfl ?_
        exact lc_11 g hp hL h6 h ih
      by_cases t12 : x33.toInt = 12
      · refine v_tin (pc := 33) 12 598 g dL_law_33 t12 (by decide) (by decide) rfl rfl ?_
        exact lc_12 g hp hL h6 h ih
      by_cases t13 : x33.toInt = 13
      · refine v_tin (pc := 33) 13 631 g dL_law_33 t13 (by decide) (by decide) rfl rfl ?_
        exact lc_13 g hp hL h6 h ih
      by_cases t14 : x33.toInt = 14
      · refine v_tin (pc := 33) 14 654 g dL_law_33 t14 (by decide) (by decide) rfl rfl ?_
        exact lc_14 g hp hL h6 h ih
      by_cases t15 : x33.toInt = 15
      · refine v_tin (pc := 33) 15 667 g dL_law_33 t15 (by decide) (by decide) rfl rfl ?_
        exact lc_15 g hp hL h6 h ih
      by_cases t16 : x33.toInt = 16
      · refine v_tin (pc := 33) 16 690 g dL_law_33 t16 (by decide) (by decide) rfl rfl ?_
        exact lc_16 g hp hL h6 h ih
      by_cases t17 : x33.toInt = 17
      · refine v_tin (pc := 33) 17 723 g dL_law_33 t17 (by decide) (by decide) rfl rfl ?_
        exact lc_17 g hp hL h6 h ih
      by_cases t18 : x33.toInt = 18
      · refine v_tin (pc := 33) 18 756 g dL_law_33 t18 (by decide) (by decide) rfl rfl ?_
        exact lc_18 g hp hL h6 h ih
      by_cases t19 : x33.toInt = 19
      · refine v_tin (pc := 33) 19 789 g dL_law_33 t19 (by decide) (by decide) rfl rfl ?_
        exact lc_19 g hp hL h6 h ih
      by_cases t20 : x33.toInt = 20
      · refine v_tin (pc := 33) 20 832 g dL_law_33 t20 (by decide) (by decide) rfl rfl ?_
        exact lc_20 g hp hL h6 h ih
      by_cases t21 : x33.toInt = 21
      · refine v_tin (pc := 33) 21 855 g dL_law_33 t21 (by decide) (by decide) rfl rfl ?_
        exact lc_21 g hp hL h6 h ih
      by_cases t22 : x33.toInt = 22
      · refine v_tin (pc := 33) 22 878 g dL_law_33 t22 (by decide) (by decide) rfl rfl ?_
        exact lc_22 g hp hL h6 h ih
      by_cases t23 : x33.toInt = 23
      · refine v_tin (pc := 33) 23 911 g dL_law_33 t23 (by decide) (by decide) rfl rfl ?_
        exact lc_23 g hp hL h6 h ih
      by_cases t24 : x33.toInt = 24
      · refine v_tin (pc := 33) 24 924 g dL_law_33 t24 (by decide) (by decide) rfl rfl ?_
        exact lc_24 g hp hL h6 h ih
      by_cases t25 : x33.toInt = 25
      · refine v_tin (pc := 33) 25 937 g dL_law_33 t25 (by decide) (by decide) rfl rfl ?_
        exact lc_25 g hp hL h6 h ih
      by_cases t26 : x33.toInt = 26
      · refine v_tin (pc := 33) 26 980 g dL_law_33 t26 (by decide) (by decide) rfl rfl ?_
        exact lc_26 g hp hL h6 h ih
      by_cases t27 : x33.toInt = 27
      · refine v_tin (pc := 33) 27 1054 g dL_law_33 t27 (by decide) (by decide) rfl rfl ?_
        exact lc_27 g hp hL h6 h ih
      by_cases t28 : x33.toInt = 28
      · refine v_tin (pc := 33) 28 1117 g dL_law_33 t28 (by decide) (by decide) rfl rfl ?_
        exact lc_28 g hp hL h6 h ih
      by_cases t29 : x33.toInt = 29
      · refine v_tin (pc := 33) 29 1140 g dL_law_33 t29 (by decide) (by decide) rfl rfl ?_
        exact lc_29 g hp hL h6 h ih
      by_cases t30 : x33.toInt = 30
      · refine v_tin (pc := 33) 30 1173 g dL_law_33 t30 (by decide) (by decide) rfl rfl ?_
        exact lc_30 g hp hL h6 h ih
      by_cases t31 : x33.toInt = 31
      · refine v_tin (pc := 33) 31 1206 g dL_law_33 t31 (by decide) (by decide) rfl rfl ?_
        exact lc_31 g hp hL h6 h ih
      by_cases t32 : x33.toInt = 32
      · refine v_tin (pc := 33) 32 1219 g dL_law_33 t32 (by decide) (by decide) rfl rfl ?_
        exact lc_32 g hp hL h6 h ih
      by_cases t33 : x33.toInt = 33
      · refine v_tin (pc := 33) 33 1232 g dL_law_33 t33 (by decide) (by decide) rfl rfl ?_
        exact lc_33 g hp hL h6 h ih
      by_cases t34 : x33.toInt = 34
      · refine v_tin (pc := 33) 34 1245 g dL_law_33 t34 (by decide) (by decide) rfl rfl ?_
        exact lc_34 g hp hL h6 h ih
      by_cases t35 : x33.toInt = 35
      · refine v_tin (pc := 33) 35 1268 g dL_law_33 t35 (by decide) (by decide) rfl rfl ?_
        exact lc_35 g hp hL h6 h ih
      refine v_tout (pc := 33) 1291 g dL_law_33 (by omega) rfl ?_
      refine v_iinc (pc := 1291) _ _ g dL_law_1291 rfl rfl hp.nL.symm rfl ?_
      refine v_loE [some (.ref 3000), some (.ref 0), some (.ref 39), some (.int (nI (i + 6)))] (by show [_, _, _, some (Value.int (nI i + nI 6))] = _; rw [nI_add]; rfl) ?_
      refine v_goto (pc := 1294) 18 g dL_law_1294 rfl ?_
      exact ih _ _ _ _ _ _ _ _ _ _ _ _ _ _ _ _ _ _ _ _ _ _ _ _ _ _ _ _ _ _ (h)
