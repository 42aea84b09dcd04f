/-! ===== Winter: items ===== -/
def QI (ni : Int32) (tb : Nat → Int32) (tl : Nat) (we : Int32) (x : Itm) : Option Value → PW → Prop := fun r0 w0 => ∃ v1 s1, okV tb tl x.2 v1 ∧ r0 = some (.int (bI (x.1.isSome = true))) ∧ (∀ S1, x.1 = some S1 → s1 = S1) ∧ w0 = wtW ni (nI (x.2)) (nI (enT tb tl (x.2))) (nI (tkT tb tl (x.2))) v1 tb tl s1 we
theorem QI_ok {ni nv : Int32} {tb : Nat → Int32} {tl : Nat} {s : St} {we : Int32} {x : Itm} {b : Nat} (hx : x = (some s, b)) (hv : okV tb tl b nv) : QI ni tb tl we x (some (.int 1)) (wtW ni (nI (b)) (nI (enT tb tl (b))) (nI (tkT tb tl (b))) nv tb tl s we) := by
  subst hx; exact ⟨nv, s, hv, rfl, fun S1 h => Option.some.inj h, rfl⟩
theorem QI_no {ni nv : Int32} {tb : Nat → Int32} {tl : Nat} {s : St} {we : Int32} {x : Itm} {b : Nat} (hx : x = (none, b)) (hv : okV tb tl b nv) : QI ni tb tl we x (some (.int 0)) (wtW ni (nI (b)) (nI (enT tb tl (b))) (nI (tkT tb tl (b))) nv tb tl s we) := by
  subst hx; exact ⟨nv, s, hv, rfl, fun S1 h => (by cases h), rfl⟩
theorem ptB_n {tb : Nat → Int32} {tl b i : Nat} (c : ¬ isW tb tl b i = true) : ptB tb tl b i = b := if_neg c
theorem ptB_f {tb : Nat → Int32} {tl b i : Nat} (c : isW tb tl b i = true) (d : ¬ numT tb tl (nxT tb tl b) 99) : ptB tb tl b i = nxT tb tl b := by unfold ptB; rw [if_pos c, if_neg d]
theorem ptB_t {tb : Nat → Int32} {tl b i : Nat} (c : isW tb tl b i = true) (d : numT tb tl (nxT tb tl b) 99) : ptB tb tl b i = nxT tb tl (nxT tb tl b) := by unfold ptB; rw [if_pos c, if_pos d]
theorem kS_lt {k : Nat} (h : k < 6) : kS k < 13 := by unfold kS; split <;> omega
def ptCo (tb : Nat → Int32) (tl : Nat) (s : St) (q b i : Nat) : St := if isW tb tl b i = true ∧ numT tb tl (nxT tb tl b) 99 then pCo s (upd (sCo s) q (nvT tb tl (nxT tb tl b))) else s
def ptTi (tb : Nat → Int32) (tl : Nat) (s : St) (q b i : Nat) : St := if isW tb tl b i = true ∧ numT tb tl (nxT tb tl b) 99 then pTi s (upd (sTi s) q (nvT tb tl (nxT tb tl b))) else s
theorem ptCo_add {tb : Nat → Int32} {tl : Nat} {S : St} {k h f c t : Int32} {b i : Nat} (hp : ptOk tb tl b i) : ptCo tb tl (addS S k h f c t) (sN S) b i = addS S k h f (ptV tb tl b i c) t := by
  unfold ptCo ptV
  by_cases hw : isW tb tl b i = true
  · rw [if_pos ⟨hw, hp hw⟩, if_pos hw, addS_Co]
  · rw [if_neg (fun z => hw z.1), if_neg hw]
theorem ptTi_add {tb : Nat → Int32} {tl : Nat} {S : St} {k h f c t : Int32} {b i : Nat} (hp : ptOk tb tl b i) : ptTi tb tl (addS S k h f c t) (sN S) b i = addS S k h f c (ptV tb tl b i t) := by
  unfold ptTi ptV
  by_cases hw : isW tb tl b i = true
  · rw [if_pos ⟨hw, hp hw⟩, if_pos hw, addS_Ti]
  · rw [if_neg (fun z => hw z.1), if_neg hw]
set_option maxRecDepth 20000 in
set_option maxHeartbeats 2000000 in
theorem c_X3_tellPart_Co {ni nv : Int32} {tb : Nat → Int32} {tl : Nat} {s : St} {we : Int32} (b i q : Nat) (hR : tpR tb) (hl : tl ≤ 120) (hb : b ≤ tl) (hi : i < 13) (hq : q < 8) (hv : okV tb tl b nv) : Runs 5 yX3_tellPart cX3_tellPart 5 (some .boolean) [.ref 0, .ref 1, .ref (1000 + i), .ref 10, .int (nI q)] (wtW ni (nI (b)) (nI (enT tb tl (b))) (nI (tkT tb tl (b))) nv tb tl s we) (fun r0 w0 => ∃ v1, okV tb tl (ptB tb tl b i) v1 ∧ r0 = some (.int (bI (ptOk tb tl b i))) ∧ w0 = wtW ni (nI (ptB tb tl b i)) (nI (enT tb tl (ptB tb tl b i))) (nI (tkT tb tl (ptB tb tl b i))) v1 tb tl (ptCo tb tl s q b i) we) := by
  refine Runs.of (by decide) (Nat.le_of_ble_eq_true rfl) rfl ?_
  intro X g hret hnL
  have hn0 := en_rng hR hb
  have hn1 := nx_rng hR hb
  have he1 := en_rng hR hn1.2.1
  have hn2 := nx_rng hR hn1.2.1
  have he2 := en_rng hR hn2.2.1
  have hn3 := nx_rng hR hn2.2.1
  refine v_aload_n (pc := 0) 0 g dX3_tellPart_0 rfl rfl ?_
  refine v_aload_n (pc := 1) 1 g dX3_tellPart_1 rfl rfl ?_
  refine v_aload_n (pc := 2) 2 g dX3_tellPart_2 rfl rfl ?_
  refine v_cVd (pc := 3) g dX3_tellPart_3 lk_X3_39 (c_X3_isWord b i hR hl hb hi) (Nat.le_of_ble_eq_true rfl) rfl rfl rfl rfl (Nat.le_of_ble_eq_true rfl) ?_
  refine v_ifb_ne (pc := 6) 11 g dX3_tellPart_6 rfl (fun c6 => ?_) (fun c6 => ?_)
  · refine v_aload_n (pc := 11) 0 g dX3_tellPart_11 rfl rfl ?_
    refine v_aload_n (pc := 12) 1 g dX3_tellPart_12 rfl rfl ?_
    refine v_cVd (pc := 13) g dX3_tellPart_13 lk_X3_27 (c_X3_step (enT tb tl (b)) (nxT tb tl (b)) hl hn0.2.1 rfl) (Nat.le_of_ble_eq_true rfl) rfl rfl rfl rfl (Nat.le_of_ble_eq_true rfl) ?_
    refine v_aload_n (pc := 16) 0 g dX3_tellPart_16 rfl rfl ?_
    refine v_bipush (pc := 17) (v := 99) g dX3_tellPart_17 (by decide) ?_
    refine v_cVd (pc := 19) g dX3_tellPart_19 lk_X3_69 (c_X3_isNumber (nxT tb tl b) 99 99 (okV_U tb tl (nxT tb tl b) nv) rfl) (Nat.le_of_ble_eq_true rfl) rfl rfl rfl rfl (Nat.le_of_ble_eq_true rfl) ?_
    refine v_ifb_ne (pc := 22) 27 g dX3_tellPart_22 rfl (fun c22 => ?_) (fun c22 => ?_)
    · have ev := okV_U tb tl (nxT tb tl b) nv c22.1
      rw [ev]
      refine v_aload_n (pc := 27) 3 g dX3_tellPart_27 rfl rfl ?_
      refine v_iload (pc := 28) g dX3_tellPart_28 rfl ?_
      refine v_aload_n (pc := 30) 0 g dX3_tellPart_30 rfl rfl ?_
      refine v_get (pc := 31) g dX3_tellPart_31 fl_X3_24 rfl rfl ?_
      refine v_iastN (pc := 34) _ _ g dX3_tellPart_34 rfl rfl hq (Nat.le_of_ble_eq_true rfl) rfl ?_
      refine v_w (wtW ni (nI (nxT tb tl b)) (nI (enT tb tl (nxT tb tl b))) (nI (tkT tb tl (nxT tb tl b))) (nvT tb tl (nxT tb tl b)) tb tl (pCo s (upd (sCo s) q (nvT tb tl (nxT tb tl b)))) we) rfl ?_
      refine v_aload_n (pc := 35) 0 g dX3_tellPart_35 rfl rfl ?_
      refine v_aload_n (pc := 36) 1 g dX3_tellPart_36 rfl rfl ?_
      refine v_cVd (pc := 37) g dX3_tellPart_37 lk_X3_27 (c_X3_step (enT tb tl (nxT tb tl b)) (nxT tb tl (nxT tb tl b)) hl he1.2.1 rfl) (Nat.le_of_ble_eq_true rfl) rfl rfl rfl rfl (Nat.le_of_ble_eq_true rfl) ?_
      refine v_iconst (pc := 40) (v := 1) g dX3_tellPart_40 (by decide) ?_
      exact v_zret (pc := 41) g hret dX3_tellPart_41 (by first | exact nb1 | exact nb0 | exact nbI) (⟨nvU tb tl (nxT tb tl (nxT tb tl b)) (nvT tb tl (nxT tb tl b)), by rw [ptB_t c6 c22]; exact okV_U _ _ _ _, so1 (fun _ => c22), by unfold ptCo; rw [ptB_t c6 c22, if_pos ⟨c6, c22⟩]⟩)
    · refine v_iconst (pc := 25) (v := 0) g dX3_tellPart_25 (by decide) ?_
      exact v_zret (pc := 26) g hret dX3_tellPart_26 (by first | exact nb1 | exact nb0 | exact nbI) (⟨nvU tb tl (nxT tb tl b) nv, by rw [ptB_f c6 c22]; exact okV_U _ _ _ _, so0 (fun z => c22 (z c6)), by unfold ptCo; rw [ptB_f c6 c22, if_neg (fun z => c22 z.2)]⟩)
  · refine v_iconst (pc := 9) (v := 1) g dX3_tellPart_9 (by decide) ?_
    exact v_zret (pc := 10) g hret dX3_tellPart_10 (by first | exact nb1 | exact nb0 | exact nbI) (⟨nv, by rw [ptB_n c6]; exact hv, so1 (fun z => absurd z c6), by unfold ptCo; rw [ptB_n c6, if_neg (fun z => c6 z.1)]⟩)
set_option maxRecDepth 20000 in
set_option maxHeartbeats 2000000 in
theorem c_X3_tellPart_Ti {ni nv : Int32} {tb : Nat → Int32} {tl : Nat} {s : St} {we : Int32} (b i q : Nat) (hR : tpR tb) (hl : tl ≤ 120) (hb : b ≤ tl) (hi : i < 13) (hq : q < 8) (hv : okV tb tl b nv) : Runs 5 yX3_tellPart cX3_tellPart 5 (some .boolean) [.ref 0, .ref 1, .ref (1000 + i), .ref 11, .int (nI q)] (wtW ni (nI (b)) (nI (enT tb tl (b))) (nI (tkT tb tl (b))) nv tb tl s we) (fun r0 w0 => ∃ v1, okV tb tl (ptB tb tl b i) v1 ∧ r0 = some (.int (bI (ptOk tb tl b i))) ∧ w0 = wtW ni (nI (ptB tb tl b i)) (nI (enT tb tl (ptB tb tl b i))) (nI (tkT tb tl (ptB tb tl b i))) v1 tb tl (ptTi tb tl s q b i) we) := by
  refine Runs.of (by decide) (Nat.le_of_ble_eq_true rfl) rfl ?_
  intro X g hret hnL
  have hn0 := en_rng hR hb
  have hn1 := nx_rng hR hb
  have he1 := en_rng hR hn1.2.1
  have hn2 := nx_rng hR hn1.2.1
  have he2 := en_rng hR hn2.2.1
  have hn3 := nx_rng hR hn2.2.1
  refine v_aload_n (pc := 0) 0 g dX3_tellPart_0 rfl rfl ?_
  refine v_aload_n (pc := 1) 1 g dX3_tellPart_1 rfl rfl ?_
  refine v_aload_n (pc := 2) 2 g dX3_tellPart_2 rfl rfl ?_
  refine v_cVd (pc := 3) g dX3_tellPart_3 lk_X3_39 (c_X3_isWord b i hR hl hb hi) (Nat.le_of_ble_eq_true rfl) rfl rfl rfl rfl (Nat.le_of_ble_eq_true rfl) ?_
  refine v_ifb_ne (pc := 6) 11 g dX3_tellPart_6 rfl (fun c6 => ?_) (fun c6 => ?_)
  · refine v_aload_n (pc := 11) 0 g dX3_tellPart_11 rfl rfl ?_
    refine v_aload_n (pc := 12) 1 g dX3_tellPart_12 rfl rfl ?_
    refine v_cVd (pc := 13) g dX3_tellPart_13 lk_X3_27 (c_X3_step (enT tb tl (b)) (nxT tb tl (b)) hl hn0.2.1 rfl) (Nat.le_of_ble_eq_true rfl) rfl rfl rfl rfl (Nat.le_of_ble_eq_true rfl) ?_
    refine v_aload_n (pc := 16) 0 g dX3_tellPart_16 rfl rfl ?_
    refine v_bipush (pc := 17) (v := 99) g dX3_tellPart_17 (by decide) ?_
    refine v_cVd (pc := 19) g dX3_tellPart_19 lk_X3_69 (c_X3_isNumber (nxT tb tl b) 99 99 (okV_U tb tl (nxT tb tl b) nv) rfl) (Nat.le_of_ble_eq_true rfl) rfl rfl rfl rfl (Nat.le_of_ble_eq_true rfl) ?_
    refine v_ifb_ne (pc := 22) 27 g dX3_tellPart_22 rfl (fun c22 => ?_) (fun c22 => ?_)
    · have ev := okV_U tb tl (nxT tb tl b) nv c22.1
      rw [ev]
      refine v_aload_n (pc := 27) 3 g dX3_tellPart_27 rfl rfl ?_
      refine v_iload (pc := 28) g dX3_tellPart_28 rfl ?_
      refine v_aload_n (pc := 30) 0 g dX3_tellPart_30 rfl rfl ?_
      refine v_get (pc := 31) g dX3_tellPart_31 fl_X3_24 rfl rfl ?_
      refine v_iastN (pc := 34) _ _ g dX3_tellPart_34 rfl rfl hq (Nat.le_of_ble_eq_true rfl) rfl ?_
      refine v_w (wtW ni (nI (nxT tb tl b)) (nI (enT tb tl (nxT tb tl b))) (nI (tkT tb tl (nxT tb tl b))) (nvT tb tl (nxT tb tl b)) tb tl (pTi s (upd (sTi s) q (nvT tb tl (nxT tb tl b)))) we) rfl ?_
      refine v_aload_n (pc := 35) 0 g dX3_tellPart_35 rfl rfl ?_
      refine v_aload_n (pc := 36) 1 g dX3_tellPart_36 rfl rfl ?_
      refine v_cVd (pc := 37) g dX3_tellPart_37 lk_X3_27 (c_X3_step (enT tb tl (nxT tb tl b)) (nxT tb tl (nxT tb tl b)) hl he1.2.1 rfl) (Nat.le_of_ble_eq_true rfl) rfl rfl rfl rfl (Nat.le_of_ble_eq_true rfl) ?_
      refine v_iconst (pc := 40) (v := 1) g dX3_tellPart_40 (by decide) ?_
      exact v_zret (pc := 41) g hret dX3_tellPart_41 (by first | exact nb1 | exact nb0 | exact nbI) (⟨nvU tb tl (nxT tb tl (nxT tb tl b)) (nvT tb tl (nxT tb tl b)), by rw [ptB_t c6 c22]; exact okV_U _ _ _ _, so1 (fun _ => c22), by unfold ptTi; rw [ptB_t c6 c22, if_pos ⟨c6, c22⟩]⟩)
    · refine v_iconst (pc := 25) (v := 0) g dX3_tellPart_25 (by decide) ?_
      exact v_zret (pc := 26) g hret dX3_tellPart_26 (by first | exact nb1 | exact nb0 | exact nbI) (⟨nvU tb tl (nxT tb tl b) nv, by rw [ptB_f c6 c22]; exact okV_U _ _ _ _, so0 (fun z => c22 (z c6)), by unfold ptTi; rw [ptB_f c6 c22, if_neg (fun z => c22 z.2)]⟩)
  · refine v_iconst (pc := 9) (v := 1) g dX3_tellPart_9 (by decide) ?_
    exact v_zret (pc := 10) g hret dX3_tellPart_10 (by first | exact nb1 | exact nb0 | exact nbI) (⟨nv, by rw [ptB_n c6]; exact hv, so1 (fun z => absurd z c6), by unfold ptTi; rw [ptB_n c6, if_neg (fun z => c6 z.1)]⟩)
set_option maxRecDepth 20000 in
set_option maxHeartbeats 2000000 in
theorem c_X3_tellBook {ni nv : Int32} {tb : Nat → Int32} {tl : Nat} {s : St} {we : Int32} (b : Nat) (o : Int32) (hR : tpR tb) (hl : tl ≤ 120) (hb : b ≤ tl) : Runs 2 yX3_tellBook cX3_tellBook 4 (some .boolean) [.ref 0, .ref 1, .ref 3, .int o] (wtW ni (nI (b)) (nI (enT tb tl (b))) (nI (tkT tb tl (b))) nv tb tl s we) (QI ni tb tl we (bk1 tb tl s o b)) := by
  refine Runs.of (by decide) (Nat.le_of_ble_eq_true rfl) rfl ?_
  intro X g hret hnL
  have hn0 := en_rng hR hb
  have hn1 := nx_rng hR hb
  have he1 := en_rng hR hn1.2.1
  have hn2 := nx_rng hR hn1.2.1
  have he2 := en_rng hR hn2.2.1
  have hn3 := nx_rng hR hn2.2.1
  refine v_aload_n (pc := 0) 0 g dX3_tellBook_0 rfl rfl ?_
  refine v_aload_n (pc := 1) 1 g dX3_tellBook_1 rfl rfl ?_
  refine v_cVd (pc := 2) g dX3_tellBook_2 lk_X3_27 (c_X3_step (enT tb tl (b)) (nxT tb tl (b)) hl hn0.2.1 rfl) (Nat.le_of_ble_eq_true rfl) rfl rfl rfl rfl (Nat.le_of_ble_eq_true rfl) ?_
  refine v_aload_n (pc := 5) 0 g dX3_tellBook_5 rfl rfl ?_
  refine v_bipush (pc := 6) (v := 11) g dX3_tellBook_6 (by decide) ?_
  refine v_cVd (pc := 8) g dX3_tellBook_8 lk_X3_69 (c_X3_isNumber (nxT tb tl b) 11 11 (okV_U tb tl (nxT tb tl b) nv) rfl) (Nat.le_of_ble_eq_true rfl) rfl rfl rfl rfl (Nat.le_of_ble_eq_true rfl) ?_
  refine v_ifb_ne (pc := 11) 16 g dX3_tellBook_11 rfl (fun c11 => ?_) (fun c11 => ?_)
  · have ev := okV_U tb tl (nxT tb tl b) nv c11.1
    rw [ev]
    obtain ⟨j, hj, ej⟩ := c11.2.nat (m := 11) (by omega)
    refine v_aload_n (pc := 16) 2 g dX3_tellBook_16 rfl rfl ?_
    refine v_get (pc := 17) g dX3_tellBook_17 fl_X3_96 rfl rfl ?_
    refine v_aload_n (pc := 20) 0 g dX3_tellBook_20 rfl rfl ?_
    refine v_get (pc := 21) g dX3_tellBook_21 fl_X3_24 rfl rfl ?_
    refine v_iload_n (pc := 24) 3 g dX3_tellBook_24 rfl rfl ?_
    refine v_iastN (pc := 25) _ _ g dX3_tellBook_25 rfl ej (by omega) (Nat.le_of_ble_eq_true rfl) rfl ?_
    refine v_w (wtW ni (nI (nxT tb tl b)) (nI (enT tb tl (nxT tb tl b))) (nI (tkT tb tl (nxT tb tl b))) (nvT tb tl (nxT tb tl b)) tb tl (pBo s (upd (sBo s) j o)) we) rfl ?_
    refine v_aload_n (pc := 26) 0 g dX3_tellBook_26 rfl rfl ?_
    refine v_aload_n (pc := 27) 1 g dX3_tellBook_27 rfl rfl ?_
    refine v_cVd (pc := 28) g dX3_tellBook_28 lk_X3_27 (c_X3_step (enT tb tl (nxT tb tl b)) (nxT tb tl (nxT tb tl b)) hl he1.2.1 rfl) (Nat.le_of_ble_eq_true rfl) rfl rfl rfl rfl (Nat.le_of_ble_eq_true rfl) ?_
    refine v_iconst (pc := 31) (v := 1) g dX3_tellBook_31 (by decide) ?_
    exact v_zret (pc := 32) g hret dX3_tellBook_32 (by first | exact nb1 | exact nb0 | exact nbI) (QI_ok (by unfold bk1; rw [if_pos c11, ej, nI_clamp (by omega)]) (okV_U _ _ _ _))
  · refine v_iconst (pc := 14) (v := 0) g dX3_tellBook_14 (by decide) ?_
    exact v_zret (pc := 15) g hret dX3_tellBook_15 (by first | exact nb1 | exact nb0 | exact nbI) (QI_no (by unfold bk1; rw [if_neg c11]) (okV_U _ _ _ _))
set_option maxRecDepth 20000 in
set_option maxHeartbeats 2000000 in
theorem c_X3_tellDry {ni nv : Int32} {tb : Nat → Int32} {tl : Nat} {s : St} {we : Int32} (b : Nat) (hR : tpR tb) (hl : tl ≤ 120) (hb : b ≤ tl) : Runs 2 yX3_tellDry cX3_tellDry 3 (some .boolean) [.ref 0, .ref 1, .ref 3] (wtW ni (nI (b)) (nI (enT tb tl (b))) (nI (tkT tb tl (b))) nv tb tl s we) (QI ni tb tl we (dr1 tb tl s b)) := by
  refine Runs.of (by decide) (Nat.le_of_ble_eq_true rfl) rfl ?_
  intro X g hret hnL
  have hn0 := en_rng hR hb
  have hn1 := nx_rng hR hb
  have he1 := en_rng hR hn1.2.1
  have hn2 := nx_rng hR hn1.2.1
  have he2 := en_rng hR hn2.2.1
  have hn3 := nx_rng hR hn2.2.1
  refine v_aload_n (pc := 0) 0 g dX3_tellDry_0 rfl rfl ?_
  refine v_aload_n (pc := 1) 1 g dX3_tellDry_1 rfl rfl ?_
  refine v_cVd (pc := 2) g dX3_tellDry_2 lk_X3_27 (c_X3_step (enT tb tl (b)) (nxT tb tl (b)) hl hn0.2.1 rfl) (Nat.le_of_ble_eq_true rfl) rfl rfl rfl rfl (Nat.le_of_ble_eq_true rfl) ?_
  refine v_aload_n (pc := 5) 0 g dX3_tellDry_5 rfl rfl ?_
  refine v_bipush (pc := 6) (v := 9) g dX3_tellDry_6 (by decide) ?_
  refine v_cVd (pc := 8) g dX3_tellDry_8 lk_X3_69 (c_X3_isNumber (nxT tb tl b) 9 9 (okV_U tb tl (nxT tb tl b) nv) rfl) (Nat.le_of_ble_eq_true rfl) rfl rfl rfl rfl (Nat.le_of_ble_eq_true rfl) ?_
  refine v_ifb_ne (pc := 11) 16 g dX3_tellDry_11 rfl (fun c11 => ?_) (fun c11 => ?_)
  · have ev := okV_U tb tl (nxT tb tl b) nv c11.1
    rw [ev]
    refine v_aload_n (pc := 16) 2 g dX3_tellDry_16 rfl rfl ?_
    refine v_aload_n (pc := 17) 0 g dX3_tellDry_17 rfl rfl ?_
    refine v_get (pc := 18) g dX3_tellDry_18 fl_X3_24 rfl rfl ?_
    refine v_put (pc := 21) _ g dX3_tellDry_21 fp_X3_99 rfl (Nat.le_of_ble_eq_true rfl) rfl rfl rfl rfl ?_
    refine v_w (wtW ni (nI (nxT tb tl b)) (nI (enT tb tl (nxT tb tl b))) (nI (tkT tb tl (nxT tb tl b))) (nvT tb tl (nxT tb tl b)) tb tl (pDr s (nvT tb tl (nxT tb tl b))) we) rfl ?_
    refine v_aload_n (pc := 24) 0 g dX3_tellDry_24 rfl rfl ?_
    refine v_aload_n (pc := 25) 1 g dX3_tellDry_25 rfl rfl ?_
    refine v_cVd (pc := 26) g dX3_tellDry_26 lk_X3_27 (c_X3_step (enT tb tl (nxT tb tl b)) (nxT tb tl (nxT tb tl b)) hl he1.2.1 rfl) (Nat.le_of_ble_eq_true rfl) rfl rfl rfl rfl (Nat.le_of_ble_eq_true rfl) ?_
    refine v_iconst (pc := 29) (v := 1) g dX3_tellDry_29 (by decide) ?_
    exact v_zret (pc := 30) g hret dX3_tellDry_30 (by first | exact nb1 | exact nb0 | exact nbI) (QI_ok (by unfold dr1; rw [if_pos c11]) (okV_U _ _ _ _))
  · refine v_iconst (pc := 14) (v := 0) g dX3_tellDry_14 (by decide) ?_
    exact v_zret (pc := 15) g hret dX3_tellDry_15 (by first | exact nb1 | exact nb0 | exact nbI) (QI_no (by unfold dr1; rw [if_neg c11]) (okV_U _ _ _ _))
set_option maxRecDepth 20000 in
set_option maxHeartbeats 2000000 in
theorem c_X3_tellLamp {ni nv : Int32} {tb : Nat → Int32} {tl : Nat} {s : St} {we : Int32} (b : Nat) (hR : tpR tb) (hl : tl ≤ 120) (hb : b ≤ tl) : Runs 2 yX3_tellLamp cX3_tellLamp 4 (some .boolean) [.ref 0, .ref 1, .ref 3] (wtW ni (nI (b)) (nI (enT tb tl (b))) (nI (tkT tb tl (b))) nv tb tl s we) (QI ni tb tl we (lm1 tb tl s b)) := by
  refine Runs.of (by decide) (Nat.le_of_ble_eq_true rfl) rfl ?_
  intro X g hret hnL
  have hn0 := en_rng hR hb
  have hn1 := nx_rng hR hb
  have he1 := en_rng hR hn1.2.1
  have hn2 := nx_rng hR hn1.2.1
  have he2 := en_rng hR hn2.2.1
  have hn3 := nx_rng hR hn2.2.1
  refine v_aload_n (pc := 0) 0 g dX3_tellLamp_0 rfl rfl ?_
  refine v_aload_n (pc := 1) 1 g dX3_tellLamp_1 rfl rfl ?_
  refine v_cVd (pc := 2) g dX3_tellLamp_2 lk_X3_27 (c_X3_step (enT tb tl (b)) (nxT tb tl (b)) hl hn0.2.1 rfl) (Nat.le_of_ble_eq_true rfl) rfl rfl rfl rfl (Nat.le_of_ble_eq_true rfl) ?_
  refine v_aload_n (pc := 5) 0 g dX3_tellLamp_5 rfl rfl ?_
  refine v_bipush (pc := 6) (v := 11) g dX3_tellLamp_6 (by decide) ?_
  refine v_cVd (pc := 8) g dX3_tellLamp_8 lk_X3_69 (c_X3_isNumber (nxT tb tl b) 11 11 (okV_U tb tl (nxT tb tl b) nv) rfl) (Nat.le_of_ble_eq_true rfl) rfl rfl rfl rfl (Nat.le_of_ble_eq_true rfl) ?_
  refine v_ifb_ne (pc := 11) 16 g dX3_tellLamp_11 rfl (fun c11 => ?_) (fun c11 => ?_)
  · have ev := okV_U tb tl (nxT tb tl b) nv c11.1
    rw [ev]
    obtain ⟨j, hj, ej⟩ := c11.2.nat (m := 11) (by omega)
    refine v_aload_n (pc := 16) 0 g dX3_tellLamp_16 rfl rfl ?_
    refine v_get (pc := 17) g dX3_tellLamp_17 fl_X3_24 rfl rfl ?_
    refine v_istore_n (pc := 20) 3 _ g dX3_tellLamp_20 rfl (Nat.le_of_ble_eq_true rfl) hnL.symm rfl ?_
    refine v_aload_n (pc := 21) 0 g dX3_tellLamp_21 rfl rfl ?_
    refine v_aload_n (pc := 22) 1 g dX3_tellLamp_22 rfl rfl ?_
    refine v_cVd (pc := 23) g dX3_tellLamp_23 lk_X3_27 (c_X3_step (enT tb tl (nxT tb tl b)) (nxT tb tl (nxT tb tl b)) hl he1.2.1 rfl) (Nat.le_of_ble_eq_true rfl) rfl rfl rfl rfl (Nat.le_of_ble_eq_true rfl) ?_
    refine v_aload_n (pc := 26) 0 g dX3_tellLamp_26 rfl rfl ?_
    refine v_bipush (pc := 27) (v := 99) g dX3_tellLamp_27 (by decide) ?_
    refine v_cVd (pc := 29) g dX3_tellLamp_29 lk_X3_69 (c_X3_isNumber (nxT tb tl (nxT tb tl b)) 99 99 (okV_U tb tl (nxT tb tl (nxT tb tl b)) (nvT tb tl (nxT tb tl b))) rfl) (Nat.le_of_ble_eq_true rfl) rfl rfl rfl rfl (Nat.le_of_ble_eq_true rfl) ?_
    refine v_ifb_ne (pc := 32) 37 g dX3_tellLamp_32 rfl (fun c32 => ?_) (fun c32 => ?_)
    · have ev2 := okV_U tb tl (nxT tb tl (nxT tb tl b)) (nvT tb tl (nxT tb tl b)) c32.1
      rw [ev2]
      refine v_aload_n (pc := 37) 2 g dX3_tellLamp_37 rfl rfl ?_
      refine v_get (pc := 38) g dX3_tellLamp_38 fl_X3_102 rfl rfl ?_
      refine v_iload_n (pc := 41) 3 g dX3_tellLamp_41 rfl rfl ?_
      refine v_aload_n (pc := 42) 0 g dX3_tellLamp_42 rfl rfl ?_
      refine v_get (pc := 43) g dX3_tellLamp_43 fl_X3_24 rfl rfl ?_
      refine v_iastN (pc := 46) _ _ g dX3_tellLamp_46 rfl ej (by omega) (Nat.le_of_ble_eq_true rfl) rfl ?_
      refine v_w (wtW ni (nI (nxT tb tl (nxT tb tl b))) (nI (enT tb tl (nxT tb tl (nxT tb tl b)))) (nI (tkT tb tl (nxT tb tl (nxT tb tl b)))) (nvT tb tl (nxT tb tl (nxT tb tl b))) tb tl (pLa s (upd (sLa s) j (nvT tb tl (nxT tb tl (nxT tb tl b))))) we) rfl ?_
      refine v_aload_n (pc := 47) 0 g dX3_tellLamp_47 rfl rfl ?_
      refine v_aload_n (pc := 48) 1 g dX3_tellLamp_48 rfl rfl ?_
      refine v_cVd (pc := 49) g dX3_tellLamp_49 lk_X3_27 (c_X3_step (enT tb tl (nxT tb tl (nxT tb tl b))) (nxT tb tl (nxT tb tl (nxT tb tl b))) hl he2.2.1 rfl) (Nat.le_of_ble_eq_true rfl) rfl rfl rfl rfl (Nat.le_of_ble_eq_true rfl) ?_
      refine v_iconst (pc := 52) (v := 1) g dX3_tellLamp_52 (by decide) ?_
      exact v_zret (pc := 53) g hret dX3_tellLamp_53 (by first | exact nb1 | exact nb0 | exact nbI) (QI_ok (by unfold lm1 lm2; rw [if_pos c11, if_pos c32, ej, nI_clamp (by omega)]) (okV_U _ _ _ _))
    · refine v_iconst (pc := 35) (v := 0) g dX3_tellLamp_35 (by decide) ?_
      exact v_zret (pc := 36) g hret dX3_tellLamp_36 (by first | exact nb1 | exact nb0 | exact nbI) (QI_no (by unfold lm1 lm2; rw [if_pos c11, if_neg c32]) (okV_U _ _ _ _))
  · refine v_iconst (pc := 14) (v := 0) g dX3_tellLamp_14 (by decide) ?_
    exact v_zret (pc := 15) g hret dX3_tellLamp_15 (by first | exact nb1 | exact nb0 | exact nbI) (QI_no (by unfold lm1; rw [if_neg c11]) (okV_U _ _ _ _))
set_option maxRecDepth 20000 in
set_option maxHeartbeats 2000000 in
theorem c_X3_tellSneezer {ni nv : Int32} {tb : Nat → Int32} {tl : Nat} {s : St} {we : Int32} (b : Nat) (k : Int32) (hR : tpR tb) (hl : tl ≤ 120) (hb : b ≤ tl) (hv : okV tb tl b nv) (h8 : sN s ≤ 8) : Runs 6 yX3_tellSneezer cX3_tellSneezer 5 (some .boolean) [.ref 0, .ref 1, .ref 3, .int k] (wtW ni (nI (b)) (nI (enT tb tl (b))) (nI (tkT tb tl (b))) nv tb tl s we) (QI ni tb tl we (sz1 tb tl s k b)) := by
  refine Runs.of (by decide) (Nat.le_of_ble_eq_true rfl) rfl ?_
  intro X g hret hnL
  have hn0 := en_rng hR hb
  have hn1 := nx_rng hR hb
  have he1 := en_rng hR hn1.2.1
  have hn2 := nx_rng hR hn1.2.1
  have he2 := en_rng hR hn2.2.1
  have hn3 := nx_rng hR hn2.2.1
  have J66 : ∀ (fa : Int32) (b3 : Nat) (v3 : Int32), sN s < 8 → b3 ≤ tl → okV tb tl b3 v3 → sz1 tb tl s k b = sz3 tb tl s k (nvT tb tl (nxT tb tl b)) fa b3 → V X 66 [some (.ref 0), some (.ref 1), some (.ref 3), some (.int k), some (.int (nI (sN s)))] [] (wtW ni (nI (b3)) (nI (enT tb tl (b3))) (nI (tkT tb tl (b3))) v3 tb tl (addS s k (nvT tb tl (nxT tb tl b)) fa 20 0) we) := by
    intro fa b3 v3 e6 hb3 hv3 hE
    have hr4 := ptB_rg hR 7 (show rg tl b3 b3 from ⟨Nat.le_refl _, hb3⟩)
    have hr5 := ptB_rg hR 8 hr4
    refine v_aload_n (pc := 66) 0 g dX3_tellSneezer_66 rfl rfl ?_
    refine v_aload_n (pc := 67) 1 g dX3_tellSneezer_67 rfl rfl ?_
    refine v_ldcS (pc := 68) 7 g dX3_tellSneezer_68 rfl ?_
    refine v_aload_n (pc := 70) 2 g dX3_tellSneezer_70 rfl rfl ?_
    refine v_get (pc := 71) g dX3_tellSneezer_71 fl_X3_85 rfl rfl ?_
    refine v_iload (pc := 74) g dX3_tellSneezer_74 rfl ?_
    refine v_cV (pc := 76) g dX3_tellSneezer_76 lk_X3_88 (Nat.le_of_ble_eq_true rfl) (c_X3_tellPart_Co b3 7 (sN s) hR hl hb3 (by decide) e6 hv3) rfl rfl rfl rfl (Nat.le_of_ble_eq_true rfl) (fun r1 w1 hq => ?_)
    obtain ⟨v4, hv4, rfl, rfl⟩ := hq
    refine v_ifb_eq (pc := 79) 102 g dX3_tellSneezer_79 rfl (fun c79 => ?_) (fun c79 => ?_)
    · have hL := QI_no (ni := ni) (we := we) (s := ptCo tb tl (addS s k (nvT tb tl (nxT tb tl b)) fa 20 0) (sN s) b3 7) (show sz1 tb tl s k b = (none, ptB tb tl b3 7) by rw [hE]; unfold sz3; rw [if_neg c79]) hv4
      refine v_iconst (pc := 102) (v := 0) g dX3_tellSneezer_102 (by decide) ?_
      exact v_zret (pc := 103) g hret dX3_tellSneezer_103 (by first | exact nb1 | exact nb0 | exact nbI) (hL)
    · rw [ptCo_add c79]
      refine v_aload_n (pc := 82) 0 g dX3_tellSneezer_82 rfl rfl ?_
      refine v_aload_n (pc := 83) 1 g dX3_tellSneezer_83 rfl rfl ?_
      refine v_ldcS (pc := 84) 8 g dX3_tellSneezer_84 rfl ?_
      refine v_aload_n (pc := 86) 2 g dX3_tellSneezer_86 rfl rfl ?_
      refine v_get (pc := 87) g dX3_tellSneezer_87 fl_X3_94 rfl rfl ?_
      refine v_iload (pc := 90) g dX3_tellSneezer_90 rfl ?_
      refine v_cV (pc := 92) g dX3_tellSneezer_92 lk_X3_88 (Nat.le_of_ble_eq_true rfl) (c_X3_tellPart_Ti (ptB tb tl b3 7) 8 (sN s) hR hl hr4.2 (by decide) e6 hv4) rfl rfl rfl rfl (Nat.le_of_ble_eq_true rfl) (fun r1 w1 hq => ?_)
      obtain ⟨v5, hv5, rfl, rfl⟩ := hq
      refine v_ifb_eq (pc := 95) 102 g dX3_tellSneezer_95 rfl (fun c95 => ?_) (fun c95 => ?_)
      · have hL := QI_no (ni := ni) (we := we) (s := ptTi tb tl (addS s k (nvT tb tl (nxT tb tl b)) fa (ptV tb tl b3 7 20) 0) (sN s) (ptB tb tl b3 7) 8) (show sz1 tb tl s k b = (none, ptB tb tl (ptB tb tl b3 7) 8) by rw [hE]; unfold sz3 sz4; rw [if_pos c79, if_neg c95]) hv5
        refine v_iconst (pc := 102) (v := 0) g dX3_tellSneezer_102 (by decide) ?_
        exact v_zret (pc := 103) g hret dX3_tellSneezer_103 (by first | exact nb1 | exact nb0 | exact nbI) (hL)
      · rw [ptTi_add c95]
        have hL := QI_ok (ni := ni) (we := we) (show sz1 tb tl s k b = (some (addS s k (nvT tb tl (nxT tb tl b)) fa (ptV tb tl b3 7 20) (ptV tb tl (ptB tb tl b3 7) 8 0)), ptB tb tl (ptB tb tl b3 7) 8) by rw [hE]; unfold sz3 sz4; rw [if_pos c79, if_pos c95]) hv5
        refine v_iconst (pc := 98) (v := 1) g dX3_tellSneezer_98 (by decide) ?_
        refine v_goto (pc := 99) 103 g dX3_tellSneezer_99 rfl ?_
        exact v_zret (pc := 103) g hret dX3_tellSneezer_103 (by first | exact nb1 | exact nb0 | exact nbI) (hL)
  refine v_aload_n (pc := 0) 2 g dX3_tellSneezer_0 rfl rfl ?_
  refine v_get (pc := 1) g dX3_tellSneezer_1 fl_X3_64 rfl rfl ?_
  refine v_bipush (pc := 4) (v := 8) g dX3_tellSneezer_4 (by decide) ?_
  refine v_icmp_lt (pc := 6) 11 g dX3_tellSneezer_6 rfl (fun c6 => ?_) (fun c6 => ?_)
  · have e6 : sN s < 8 := by rcases Nat.lt_or_ge (sN s) 8 with z | z; exact z; exact absurd c6 (nI_nlt (b := 8) z (by omega))
    refine v_aload_n (pc := 11) 0 g dX3_tellSneezer_11 rfl rfl ?_
    refine v_aload_n (pc := 12) 1 g dX3_tellSneezer_12 rfl rfl ?_
    refine v_cVd (pc := 13) g dX3_tellSneezer_13 lk_X3_27 (c_X3_step (enT tb tl (b)) (nxT tb tl (b)) hl hn0.2.1 rfl) (Nat.le_of_ble_eq_true rfl) rfl rfl rfl rfl (Nat.le_of_ble_eq_true rfl) ?_
    refine v_aload_n (pc := 16) 0 g dX3_tellSneezer_16 rfl rfl ?_
    refine v_bipush (pc := 17) (v := 11) g dX3_tellSneezer_17 (by decide) ?_
    refine v_cVd (pc := 19) g dX3_tellSneezer_19 lk_X3_69 (c_X3_isNumber (nxT tb tl b) 11 11 (okV_U tb tl (nxT tb tl b) nv) rfl) (Nat.le_of_ble_eq_true rfl) rfl rfl rfl rfl (Nat.le_of_ble_eq_true rfl) ?_
    refine v_ifb_ne (pc := 22) 27 g dX3_tellSneezer_22 rfl (fun c22 => ?_) (fun c22 => ?_)
    · have ev := okV_U tb tl (nxT tb tl b) nv c22.1
      rw [ev]
      refine v_aload_n (pc := 27) 2 g dX3_tellSneezer_27 rfl rfl ?_
      refine v_iload_n (pc := 28) 3 g dX3_tellSneezer_28 rfl rfl ?_
      refine v_aload_n (pc := 29) 0 g dX3_tellSneezer_29 rfl rfl ?_
      refine v_get (pc := 30) g dX3_tellSneezer_30 fl_X3_24 rfl rfl ?_
      refine v_cVd (pc := 33) g dX3_tellSneezer_33 lk_X3_73 (tw_addOne k _ e6) (Nat.le_of_ble_eq_true rfl) rfl rfl rfl rfl (Nat.le_of_ble_eq_true rfl) ?_
      refine v_istore (pc := 36) _ g dX3_tellSneezer_36 (Nat.le_of_ble_eq_true rfl) hnL.symm rfl ?_
      refine v_aload_n (pc := 38) 0 g dX3_tellSneezer_38 rfl rfl ?_
      refine v_aload_n (pc := 39) 1 g dX3_tellSneezer_39 rfl rfl ?_
      refine v_cVd (pc := 40) g dX3_tellSneezer_40 lk_X3_27 (c_X3_step (enT tb tl (nxT tb tl b)) (nxT tb tl (nxT tb tl b)) hl he1.2.1 rfl) (Nat.le_of_ble_eq_true rfl) rfl rfl rfl rfl (Nat.le_of_ble_eq_true rfl) ?_
      refine v_aload_n (pc := 43) 0 g dX3_tellSneezer_43 rfl rfl ?_
      refine v_aload_n (pc := 44) 1 g dX3_tellSneezer_44 rfl rfl ?_
      refine v_ldcS (pc := 45) 6 g dX3_tellSneezer_45 rfl ?_
      refine v_cVd (pc := 47) g dX3_tellSneezer_47 lk_X3_39 (c_X3_isWord (nxT tb tl (nxT tb tl b)) 6 hR hl hn2.2.1 (by decide)) (Nat.le_of_ble_eq_true rfl) rfl rfl rfl rfl (Nat.le_of_ble_eq_true rfl) ?_
      refine v_ifb_eq (pc := 50) 66 g dX3_tellSneezer_50 rfl (fun c50 => ?_) (fun c50 => ?_)
      · have hE : sz1 tb tl s k b = sz3 tb tl s k (nvT tb tl (nxT tb tl b)) 1 (nxT tb tl (nxT tb tl b)) := by unfold sz1 sz2; rw [if_pos e6, if_pos c22, if_neg c50]
        exact J66 _ _ _ e6 (by omega) (okV_U _ _ _ _) hE
      · have hE : sz1 tb tl s k b = sz3 tb tl s k (nvT tb tl (nxT tb tl b)) 0 (nxT tb tl (nxT tb tl (nxT tb tl b))) := by unfold sz1 sz2; rw [if_pos e6, if_pos c22, if_pos c50]
        refine v_aload_n (pc := 53) 2 g dX3_tellSneezer_53 rfl rfl ?_
        refine v_get (pc := 54) g dX3_tellSneezer_54 fl_X3_79 rfl rfl ?_
        refine v_iload (pc := 57) g dX3_tellSneezer_57 rfl ?_
        refine v_iconst (pc := 59) (v := 0) g dX3_tellSneezer_59 (by decide) ?_
        refine v_iastN (pc := 60) _ _ g dX3_tellSneezer_60 rfl rfl e6 (Nat.le_of_ble_eq_true rfl) rfl ?_
        refine v_w (wtW ni (nI (nxT tb tl (nxT tb tl b))) (nI (enT tb tl (nxT tb tl (nxT tb tl b)))) (nI (tkT tb tl (nxT tb tl (nxT tb tl b)))) (nvU tb tl (nxT tb tl (nxT tb tl b)) (nvT tb tl (nxT tb tl b))) tb tl (addS s k (nvT tb tl (nxT tb tl b)) 0 20 0) we) (by rw [← addS_Fa s k (nvT tb tl (nxT tb tl b)) 1 20 0 0]; rfl) ?_
        refine v_aload_n (pc := 61) 0 g dX3_tellSneezer_61 rfl rfl ?_
        refine v_aload_n (pc := 62) 1 g dX3_tellSneezer_62 rfl rfl ?_
        refine v_cVd (pc := 63) g dX3_tellSneezer_63 lk_X3_27 (c_X3_step (enT tb tl (nxT tb tl (nxT tb tl b))) (nxT tb tl (nxT tb tl (nxT tb tl b))) hl he2.2.1 rfl) (Nat.le_of_ble_eq_true rfl) rfl rfl rfl rfl (Nat.le_of_ble_eq_true rfl) ?_
        exact J66 _ _ _ e6 (by omega) (okV_U _ _ _ _) hE
    · refine v_iconst (pc := 25) (v := 0) g dX3_tellSneezer_25 (by decide) ?_
      exact v_zret (pc := 26) g hret dX3_tellSneezer_26 (by first | exact nb1 | exact nb0 | exact nbI) (QI_no (by unfold sz1; rw [if_pos e6, if_neg c22]) (okV_U _ _ _ _))
  · have e6 : ¬ sN s < 8 := fun z => c6 ((nI_ltI (a := sN s) (b := 8) (by omega) (by omega)).mpr z)
    refine v_iconst (pc := 9) (v := 0) g dX3_tellSneezer_9 (by decide) ?_
    exact v_zret (pc := 10) g hret dX3_tellSneezer_10 (by first | exact nb1 | exact nb0 | exact nbI) (QI_no (by unfold sz1; rw [if_neg e6]) hv)
set_option maxRecDepth 20000 in
set_option maxHeartbeats 2000000 in
theorem c_X3_nameOfKind (w : PW) (k : Nat) (hk : k < 6) : RunD 0 yX3_nameOfKind cX3_nameOfKind 1 (some (.object "java/lang/String")) [.int (nI k)] (w) (some (.ref (1000 + kS k))) (w) := by
  refine Runs.of (by decide) (Nat.le_of_ble_eq_true rfl) rfl ?_
  intro X g hret hnL
  refine v_iload_n (pc := 0) 0 g dX3_nameOfKind_0 rfl rfl ?_
  refine v_top (fun x1 e1 => ?_)
  by_cases t1_1 : x1.toInt = 1
  · refine v_tin (pc := 1) 1 36 g dX3_nameOfKind_1 t1_1 (by decide) (by decide) rfl rfl ?_
    rw [e1] at t1_1
    refine v_ldcS (pc := 36) 0 g dX3_nameOfKind_36 rfl ?_
    exact v_aret (pc := 38) g hret dX3_nameOfKind_38 (Or.inl ⟨_, rfl⟩) (by rw [nI_toInt (by omega)] at *; refine ⟨?_, rfl⟩; first | (rw [show k = 1 by omega]; rfl) | (rw [show k = 2 by omega]; rfl) | (rw [show k = 3 by omega]; rfl) | (rw [show k = 4 by omega]; rfl) | (rw [show k = 5 by omega]; rfl) | (rw [show k = 0 by omega]; rfl))
  by_cases t1_2 : x1.toInt = 2
  · refine v_tin (pc := 1) 2 39 g dX3_nameOfKind_1 t1_2 (by decide) (by decide) rfl rfl ?_
    rw [e1] at t1_2
    refine v_ldcS (pc := 39) 1 g dX3_nameOfKind_39 rfl ?_
    exact v_aret (pc := 41) g hret dX3_nameOfKind_41 (Or.inl ⟨_, rfl⟩) (by rw [nI_toInt (by omega)] at *; refine ⟨?_, rfl⟩; first | (rw [show k = 1 by omega]; rfl) | (rw [show k = 2 by omega]; rfl) | (rw [show k = 3 by omega]; rfl) | (rw [show k = 4 by omega]; rfl) | (rw [show k = 5 by omega]; rfl) | (rw [show k = 0 by omega]; rfl))
  by_cases t1_3 : x1.toInt = 3
  · refine v_tin (pc := 1) 3 42 g dX3_nameOfKind_1 t1_3 (by decide) (by decide) rfl rfl ?_
    rw [e1] at t1_3
    refine v_ldcS (pc := 42) 2 g dX3_nameOfKind_42 rfl ?_
    exact v_aret (pc := 44) g hret dX3_nameOfKind_44 (Or.inl ⟨_, rfl⟩) (by rw [nI_toInt (by omega)] at *; refine ⟨?_, rfl⟩; first | (rw [show k = 1 by omega]; rfl) | (rw [show k = 2 by omega]; rfl) | (rw [show k = 3 by omega]; rfl) | (rw [show k = 4 by omega]; rfl) | (rw [show k = 5 by omega]; rfl) | (rw [show k = 0 by omega]; rfl))
  by_cases t1_4 : x1.toInt = 4
  · refine v_tin (pc := 1) 4 45 g dX3_nameOfKind_1 t1_4 (by decide) (by decide) rfl rfl ?_
    rw [e1] at t1_4
    refine v_ldcS (pc := 45) 3 g dX3_nameOfKind_45 rfl ?_
    exact v_aret (pc := 47) g hret dX3_nameOfKind_47 (Or.inl ⟨_, rfl⟩) (by rw [nI_toInt (by omega)] at *; refine ⟨?_, rfl⟩; first | (rw [show k = 1 by omega]; rfl) | (rw [show k = 2 by omega]; rfl) | (rw [show k = 3 by omega]; rfl) | (rw [show k = 4 by omega]; rfl) | (rw [show k = 5 by omega]; rfl) | (rw [show k = 0 by omega]; rfl))
  by_cases t1_5 : x1.toInt = 5
  · refine v_tin (pc := 1) 5 48 g dX3_nameOfKind_1 t1_5 (by decide) (by decide) rfl rfl ?_
    rw [e1] at t1_5
    refine v_ldcS (pc := 48) 4 g dX3_nameOfKind_48 rfl ?_
    exact v_aret (pc := 50) g hret dX3_nameOfKind_50 (Or.inl ⟨_, rfl⟩) (by rw [nI_toInt (by omega)] at *; refine ⟨?_, rfl⟩; first | (rw [show k = 1 by omega]; rfl) | (rw [show k = 2 by omega]; rfl) | (rw [show k = 3 by omega]; rfl) | (rw [show k = 4 by omega]; rfl) | (rw [show k = 5 by omega]; rfl) | (rw [show k = 0 by omega]; rfl))
  refine v_tout (pc := 1) 51 g dX3_nameOfKind_1 (by omega) rfl ?_
  rw [e1] at t1_1
  rw [e1] at t1_2
  rw [e1] at t1_3
  rw [e1] at t1_4
  rw [e1] at t1_5
  refine v_ldcS (pc := 51) 5 g dX3_nameOfKind_51 rfl ?_
  exact v_aret (pc := 53) g hret dX3_nameOfKind_53 (Or.inl ⟨_, rfl⟩) (by rw [nI_toInt (by omega)] at *; refine ⟨?_, rfl⟩; first | (rw [show k = 1 by omega]; rfl) | (rw [show k = 2 by omega]; rfl) | (rw [show k = 3 by omega]; rfl) | (rw [show k = 4 by omega]; rfl) | (rw [show k = 5 by omega]; rfl) | (rw [show k = 0 by omega]; rfl))
set_option maxRecDepth 20000 in
set_option maxHeartbeats 2000000 in
theorem c_X3_tellItem {ni nv : Int32} {tb : Nat → Int32} {tl : Nat} {s : St} {we : Int32} (b : Nat) (hR : tpR tb) (hl : tl ≤ 120) (hb : b ≤ tl) (hv : okV tb tl b nv) (h8 : sN s ≤ 8) : Runs 7 yX3_tellItem cX3_tellItem 4 (some .boolean) [.ref 0, .ref 1, .ref 3] (wtW ni (nI (b)) (nI (enT tb tl (b))) (nI (tkT tb tl (b))) nv tb tl s we) (QI ni tb tl we (it1 tb tl s b)) := by
  refine Runs.of (by decide) (Nat.le_of_ble_eq_true rfl) rfl ?_
  intro X g hret hnL
  refine v_iconst (pc := 0) (v := 0) g dX3_tellItem_0 (by decide) ?_
  refine v_istore_n (pc := 1) 3 _ g dX3_tellItem_1 rfl (Nat.le_of_ble_eq_true rfl) hnL.symm rfl ?_
  have L2 : ∀ (fu : Nat) (k : Nat), k ≤ 6 → kdT tb tl b = fst (kdP tb tl b) (6 - k) k → 6 - k < fu → V X 2 [some (.ref 0), some (.ref 1), some (.ref 3), some (.int (nI k))] [] (wtW ni (nI (b)) (nI (enT tb tl (b))) (nI (tkT tb tl (b))) nv tb tl s we) := by
    intro fu
    induction fu with
    | zero => intro k hk hf hm; exact absurd hm (Nat.not_lt_zero _)
    | succ fu ih =>
      intro k hk hf hm
      refine v_iload_n (pc := 2) 3 g dX3_tellItem_2 rfl rfl ?_
      refine v_bipush (pc := 3) (v := 6) g dX3_tellItem_3 (by decide) ?_
      refine v_icmp_ge (pc := 5) 34 g dX3_tellItem_5 rfl (fun c5 => ?_) (fun c5 => ?_)
      · have e5 : k = 6 := ge_t (n := 6) rfl hk (by omega) c5
        have hI0 : it1 tb tl s b = ot1 tb tl s b := by unfold it1; rw [hf, fst_e (by omega)]; rfl
        refine v_aload_n (pc := 34) 0 g dX3_tellItem_34 rfl rfl ?_
        refine v_aload_n (pc := 35) 1 g dX3_tellItem_35 rfl rfl ?_
        refine v_ldcS (pc := 36) 9 g dX3_tellItem_36 rfl ?_
        refine v_cVd (pc := 38) g dX3_tellItem_38 lk_X3_39 (c_X3_isWord b 9 hR hl hb (by decide)) (Nat.le_of_ble_eq_true rfl) rfl rfl rfl rfl (Nat.le_of_ble_eq_true rfl) ?_
        refine v_ifb_eq (pc := 41) 52 g dX3_tellItem_41 rfl (fun c41 => ?_) (fun c41 => ?_)
        · refine v_aload_n (pc := 52) 0 g dX3_tellItem_52 rfl rfl ?_
          refine v_aload_n (pc := 53) 1 g dX3_tellItem_53 rfl rfl ?_
          refine v_ldcS (pc := 54) 10 g dX3_tellItem_54 rfl ?_
          refine v_cVd (pc := 56) g dX3_tellItem_56 lk_X3_39 (c_X3_isWord b 10 hR hl hb (by decide)) (Nat.le_of_ble_eq_true rfl) rfl rfl rfl rfl (Nat.le_of_ble_eq_true rfl) ?_
          refine v_ifb_eq (pc := 59) 70 g dX3_tellItem_59 rfl (fun c59 => ?_) (fun c59 => ?_)
          · refine v_aload_n (pc := 70) 0 g dX3_tellItem_70 rfl rfl ?_
            refine v_aload_n (pc := 71) 1 g dX3_tellItem_71 rfl rfl ?_
            refine v_ldcS (pc := 72) 11 g dX3_tellItem_72 rfl ?_
            refine v_cVd (pc := 74) g dX3_tellItem_74 lk_X3_39 (c_X3_isWord b 11 hR hl hb (by decide)) (Nat.le_of_ble_eq_true rfl) rfl rfl rfl rfl (Nat.le_of_ble_eq_true rfl) ?_
            refine v_ifb_eq (pc := 77) 87 g dX3_tellItem_77 rfl (fun c77 => ?_) (fun c77 => ?_)
            · refine v_aload_n (pc := 87) 0 g dX3_tellItem_87 rfl rfl ?_
              refine v_aload_n (pc := 88) 1 g dX3_tellItem_88 rfl rfl ?_
              refine v_ldcS (pc := 89) 12 g dX3_tellItem_89 rfl ?_
              refine v_cVd (pc := 91) g dX3_tellItem_91 lk_X3_39 (c_X3_isWord b 12 hR hl hb (by decide)) (Nat.le_of_ble_eq_true rfl) rfl rfl rfl rfl (Nat.le_of_ble_eq_true rfl) ?_
              refine v_ifb_eq (pc := 94) 104 g dX3_tellItem_94 rfl (fun c94 => ?_) (fun c94 => ?_)
              · refine v_iconst (pc := 104) (v := 0) g dX3_tellItem_104 (by decide) ?_
                exact v_zret (pc := 105) g hret dX3_tellItem_105 (by first | exact nb1 | exact nb0 | exact nbI) (QI_no (by rw [hI0]; unfold ot1; rw [if_neg c41, if_neg c59, if_neg c77, if_neg c94]) hv)
              · have hE : it1 tb tl s b = lm1 tb tl s b := by rw [hI0]; unfold ot1; rw [if_neg c41, if_neg c59, if_neg c77, if_pos c94]
                refine v_aload_n (pc := 97) 0 g dX3_tellItem_97 rfl rfl ?_
                refine v_aload_n (pc := 98) 1 g dX3_tellItem_98 rfl rfl ?_
                refine v_aload_n (pc := 99) 2 g dX3_tellItem_99 rfl rfl ?_
                refine v_cV (pc := 100) g dX3_tellItem_100 lk_X3_61 (Nat.le_of_ble_eq_true rfl) (c_X3_tellLamp b hR hl hb) rfl rfl rfl rfl (Nat.le_of_ble_eq_true rfl) (fun r1 w1 hq => ?_)
                obtain ⟨v1, s1, h1, rfl, h3, rfl⟩ := hq
                exact v_zret (pc := 103) g hret dX3_tellItem_103 (by first | exact nb1 | exact nb0 | exact nbI) (by rw [hE]; exact ⟨_, _, h1, rfl, h3, rfl⟩)
            · have hE : it1 tb tl s b = dr1 tb tl s b := by rw [hI0]; unfold ot1; rw [if_neg c41, if_neg c59, if_pos c77]
              refine v_aload_n (pc := 80) 0 g dX3_tellItem_80 rfl rfl ?_
              refine v_aload_n (pc := 81) 1 g dX3_tellItem_81 rfl rfl ?_
              refine v_aload_n (pc := 82) 2 g dX3_tellItem_82 rfl rfl ?_
              refine v_cV (pc := 83) g dX3_tellItem_83 lk_X3_56 (Nat.le_of_ble_eq_true rfl) (c_X3_tellDry b hR hl hb) rfl rfl rfl rfl (Nat.le_of_ble_eq_true rfl) (fun r1 w1 hq => ?_)
              obtain ⟨v1, s1, h1, rfl, h3, rfl⟩ := hq
              exact v_zret (pc := 86) g hret dX3_tellItem_86 (by first | exact nb1 | exact nb0 | exact nbI) (by rw [hE]; exact ⟨_, _, h1, rfl, h3, rfl⟩)
          · have hE : it1 tb tl s b = bk1 tb tl s 0 b := by rw [hI0]; unfold ot1; rw [if_neg c41, if_pos c59]
            refine v_aload_n (pc := 62) 0 g dX3_tellItem_62 rfl rfl ?_
            refine v_aload_n (pc := 63) 1 g dX3_tellItem_63 rfl rfl ?_
            refine v_aload_n (pc := 64) 2 g dX3_tellItem_64 rfl rfl ?_
            refine v_iconst (pc := 65) (v := 0) g dX3_tellItem_65 (by decide) ?_
            refine v_cV (pc := 66) g dX3_tellItem_66 lk_X3_49 (Nat.le_of_ble_eq_true rfl) (c_X3_tellBook b 0 hR hl hb) rfl rfl rfl rfl (Nat.le_of_ble_eq_true rfl) (fun r1 w1 hq => ?_)
            obtain ⟨v1, s1, h1, rfl, h3, rfl⟩ := hq
            exact v_zret (pc := 69) g hret dX3_tellItem_69 (by first | exact nb1 | exact nb0 | exact nbI) (by rw [hE]; exact ⟨_, _, h1, rfl, h3, rfl⟩)
        · have hE : it1 tb tl s b = bk1 tb tl s 1 b := by rw [hI0]; unfold ot1; rw [if_pos c41]
          refine v_aload_n (pc := 44) 0 g dX3_tellItem_44 rfl rfl ?_
          refine v_aload_n (pc := 45) 1 g dX3_tellItem_45 rfl rfl ?_
          refine v_aload_n (pc := 46) 2 g dX3_tellItem_46 rfl rfl ?_
          refine v_iconst (pc := 47) (v := 1) g dX3_tellItem_47 (by decide) ?_
          refine v_cV (pc := 48) g dX3_tellItem_48 lk_X3_49 (Nat.le_of_ble_eq_true rfl) (c_X3_tellBook b 1 hR hl hb) rfl rfl rfl rfl (Nat.le_of_ble_eq_true rfl) (fun r1 w1 hq => ?_)
          obtain ⟨v1, s1, h1, rfl, h3, rfl⟩ := hq
          exact v_zret (pc := 51) g hret dX3_tellItem_51 (by first | exact nb1 | exact nb0 | exact nbI) (by rw [hE]; exact ⟨_, _, h1, rfl, h3, rfl⟩)
      · have e5 : k < 6 := ge_f (n := 6) rfl hk (by omega) c5
        refine v_aload_n (pc := 8) 0 g dX3_tellItem_8 rfl rfl ?_
        refine v_aload_n (pc := 9) 1 g dX3_tellItem_9 rfl rfl ?_
        refine v_iload_n (pc := 10) 3 g dX3_tellItem_10 rfl rfl ?_
        refine v_cSd (pc := 11) g dX3_tellItem_11 lk_X3_35 (c_X3_nameOfKind _ k e5) (Nat.le_of_ble_eq_true rfl) rfl rfl (Nat.le_of_ble_eq_true rfl) ?_
        refine v_cVd (pc := 14) g dX3_tellItem_14 lk_X3_39 (c_X3_isWord b (kS k) hR hl hb (kS_lt e5)) (Nat.le_of_ble_eq_true rfl) rfl rfl rfl rfl (Nat.le_of_ble_eq_true rfl) ?_
        refine v_ifb_eq (pc := 17) 28 g dX3_tellItem_17 rfl (fun c17 => ?_) (fun c17 => ?_)
        · have hf2 : kdT tb tl b = fst (kdP tb tl b) (6 - (k + 1)) (k + 1) := by rw [hf, fst_f (by omega) (show kdP tb tl b k = false from Bool.eq_false_iff.mpr c17)]
          refine v_iincN (pc := 28) g dX3_tellItem_28 rfl hnL.symm ?_
          refine v_goto (pc := 31) 2 g dX3_tellItem_31 rfl ?_
          exact ih (k + 1) (by omega) hf2 (by omega)
        · have hE : it1 tb tl s b = sz1 tb tl s (nI k) b := by unfold it1; rw [hf, fst_t (by omega) (show kdP tb tl b k = true from c17)]; rfl
          refine v_aload_n (pc := 20) 0 g dX3_tellItem_20 rfl rfl ?_
          refine v_aload_n (pc := 21) 1 g dX3_tellItem_21 rfl rfl ?_
          refine v_aload_n (pc := 22) 2 g dX3_tellItem_22 rfl rfl ?_
          refine v_iload_n (pc := 23) 3 g dX3_tellItem_23 rfl rfl ?_
          refine v_cV (pc := 24) g dX3_tellItem_24 lk_X3_43 (Nat.le_of_ble_eq_true rfl) (c_X3_tellSneezer b (nI k) hR hl hb hv h8) rfl rfl rfl rfl (Nat.le_of_ble_eq_true rfl) (fun r1 w1 hq => ?_)
          obtain ⟨v1, s1, h1, rfl, h3, rfl⟩ := hq
          exact v_zret (pc := 27) g hret dX3_tellItem_27 (by first | exact nb1 | exact nb0 | exact nbI) (by rw [hE]; exact ⟨_, _, h1, rfl, h3, rfl⟩)
  exact L2 7 0 (Nat.zero_le _) rfl (by omega)
def QA (s : St) (tb : Nat → Int32) (tl : Nat) (we : Int32) : Option Value → PW → Prop := fun r0 w0 => ∃ i1 n1 e1 k1 v1 s1, r0 = some (.int (bI ((a_24 s tb tl).1.isSome = true))) ∧ (∀ S1, (a_24 s tb tl).1 = some S1 → s1 = S1 ∧ (a_24 s tb tl).2 = i1) ∧ ((a_24 s tb tl).1 = none → (a_24 s tb tl).2 = -1 - n1) ∧ w0 = wtW i1 n1 e1 k1 v1 tb tl s1 we
theorem QA_ok {ni ns ne nk nv : Int32} {tb : Nat → Int32} {tl : Nat} {s : St} {we : Int32} {S : St} (h : a_24 S tb tl = (some s, ni)) : QA S tb tl we (some (.int 1)) (wtW ni ns ne nk nv tb tl s we) :=
  ⟨ni, ns, ne, nk, nv, s, by rw [h]; rfl, fun S1 h1 => by rw [h] at h1 ⊢; exact ⟨Option.some.inj h1, rfl⟩, fun h1 => (by rw [h] at h1; cases h1), rfl⟩
theorem QA_no {ni ns ne nk nv : Int32} {tb : Nat → Int32} {tl : Nat} {s : St} {we : Int32} {S : St} (h : a_24 S tb tl = (none, -1 - ns)) : QA S tb tl we (some (.int 0)) (wtW ni ns ne nk nv tb tl s we) :=
  ⟨ni, ns, ne, nk, nv, s, by rw [h]; rfl, fun S1 h1 => (by rw [h] at h1; cases h1), fun _ => (by rw [h]), rfl⟩
theorem itm_some {x : Itm} (h : x.1.isSome = true) : ∃ S, x = (some S, x.2) := by
  obtain ⟨o, b⟩ := x
  cases o with
  | none => cases h
  | some S => exact ⟨S, rfl⟩
theorem itm_none {x : Itm} (h : ¬ x.1.isSome = true) : x = (none, x.2) := by
  obtain ⟨o, b⟩ := x
  cases o with
  | none => rfl
  | some S => exact absurd rfl h
theorem sz_n {tb : Nat → Int32} {tl : Nat} {S S1 : St} {k : Int32} {b : Nat} (h : (sz1 tb tl S k b).1 = some S1) : sN S1 ≤ 8 := by
  unfold sz1 at h
  split at h
  · next h8 =>
    split at h
    · unfold sz2 at h
      have key : ∀ x fa b3, (sz3 tb tl S k x fa b3).1 = some S1 → sN S1 ≤ 8 := by
        intro x fa b3 h
        unfold sz3 at h
        split at h
        · unfold sz4 at h
          split at h
          · have := Option.some.inj h
            rw [← this]
            show sN S + 1 ≤ 8
            omega
          · cases h
        · cases h
      split at h
      · exact key _ _ _ h
      · exact key _ _ _ h
    · cases h
  · cases h
theorem it1_n {tb : Nat → Int32} {tl : Nat} {S S1 : St} {b : Nat} (h8 : sN S ≤ 8) (h : (it1 tb tl S b).1 = some S1) : sN S1 ≤ 8 := by
  unfold it1 at h
  cases hk : kdT tb tl b with
  | some k => rw [hk] at h; exact sz_n h
  | none =>
    rw [hk] at h
    have h : (ot1 tb tl S b).1 = some S1 := h
    unfold ot1 bk1 dr1 lm1 lm2 at h
    (repeat' split at h) <;> first | (cases h; done) | (have e := Option.some.inj h; rw [← e]; exact h8)
theorem nx1_none {tb : Nat → Int32} {tl : Nat} {f : St → Nat → Nat → Option St × Int32} {n : Nat} {x : Itm} {b : Nat} (h : x = (none, b)) : nx1 tb tl f n x = (none, -1 - nI b) := by subst h; rfl
theorem nx1_some {tb : Nat → Int32} {tl : Nat} {f : St → Nat → Nat → Option St × Int32} {n : Nat} {x : Itm} {S : St} {b : Nat} (h : x = (some S, b)) : nx1 tb tl f n x = nx2 tb tl f n S b := by subst h; rfl
set_option maxRecDepth 20000 in
set_option maxHeartbeats 2000000 in
theorem c_X3_tellAll {ni ns ne nk nv : Int32} {tb : Nat → Int32} {tl : Nat} {s : St} {we : Int32} (hR : tpR tb) (hl : tl ≤ 120) (h80 : sN s ≤ 8) : Runs 8 yX3_tellAll cX3_tellAll 4 (some .boolean) [.ref 0, .ref 1, .ref 3] (wtW ni ns ne nk nv tb tl s we) (QA s tb tl we) := by
  refine Runs.of (by decide) (Nat.le_of_ble_eq_true rfl) rfl ?_
  intro X g hret hnL
  refine v_aload_n (pc := 0) 0 g dX3_tellAll_0 rfl rfl ?_
  refine v_iconst (pc := 1) (v := 0) g dX3_tellAll_1 (by decide) ?_
  refine v_put (pc := 2) _ g dX3_tellAll_2 fp_X3_9 rfl (Nat.le_of_ble_eq_true rfl) rfl rfl rfl rfl ?_
  refine v_aload_n (pc := 5) 0 g dX3_tellAll_5 rfl rfl ?_
  refine v_iconst (pc := 6) (v := 0) g dX3_tellAll_6 (by decide) ?_
  refine v_put (pc := 7) _ g dX3_tellAll_7 fp_X3_18 rfl (Nat.le_of_ble_eq_true rfl) rfl rfl rfl rfl ?_
  refine v_w (wtW (nI 0) ns (nI 0) nk nv tb tl s we) rfl ?_
  refine v_aload_n (pc := 10) 0 g dX3_tellAll_10 rfl rfl ?_
  refine v_aload_n (pc := 11) 1 g dX3_tellAll_11 rfl rfl ?_
  refine v_cVd (pc := 12) g dX3_tellAll_12 lk_X3_27 (c_X3_step 0 (bgT tb tl 0) hl (Nat.zero_le _) rfl) (Nat.le_of_ble_eq_true rfl) rfl rfl rfl rfl (Nat.le_of_ble_eq_true rfl) ?_
  refine v_iconst (pc := 15) (v := 0) g dX3_tellAll_15 (by decide) ?_
  refine v_istore_n (pc := 16) 3 _ g dX3_tellAll_16 rfl (Nat.le_of_ble_eq_true rfl) hnL.symm rfl ?_
  have L17 : ∀ (fu : Nat) (s0 : St) (b n : Nat) (v : Int32), n ≤ b → b ≤ tl → okV tb tl b v → sN s0 ≤ 8 → prs tb tl (121 - n) s0 b n = a_24 s tb tl → tl - b < fu → V X 17 [some (.ref 0), some (.ref 1), some (.ref 3), some (.int (nI n))] [] (wtW (nI n) (nI (b)) (nI (enT tb tl (b))) (nI (tkT tb tl (b))) v tb tl s0 we) := by
    intro fu
    induction fu with
    | zero => intro s0 b n v hn hb hv h8 ha hm; exact absurd hm (Nat.not_lt_zero _)
    | succ fu ih =>
      intro s0 b n v hn hb hv h8 ha hm
      refine v_iload_n (pc := 17) 3 g dX3_tellAll_17 rfl rfl ?_
      refine v_bipush (pc := 18) (v := 120) g dX3_tellAll_18 (by decide) ?_
      refine v_icmp_gt (pc := 20) 74 g dX3_tellAll_20 rfl (fun c20 => ?_) (fun c20 => ?_)
      · exact absurd ((nI_ltI (a := 120) (b := n) (by omega) (by omega)).mp c20) (by omega)
      · have hP : a_24 s tb tl = nx1 tb tl (prs tb tl (120 - n)) n (it1 tb tl s0 b) := by rw [← ha, show 121 - n = (120 - n) + 1 by omega, prs]
        have hx := it1_rg hR (S := s0) hb
        refine v_aload_n (pc := 23) 0 g dX3_tellAll_23 rfl rfl ?_
        refine v_aload_n (pc := 24) 1 g dX3_tellAll_24 rfl rfl ?_
        refine v_aload_n (pc := 25) 2 g dX3_tellAll_25 rfl rfl ?_
        refine v_cV (pc := 26) g dX3_tellAll_26 lk_X3_31 (Nat.le_of_ble_eq_true rfl) (c_X3_tellItem b hR hl hb hv h8) rfl rfl rfl rfl (Nat.le_of_ble_eq_true rfl) (fun r1 w1 hq => ?_)
        obtain ⟨v1, s1, h1, rfl, h3, rfl⟩ := hq
        refine v_ifb_ne (pc := 29) 34 g dX3_tellAll_29 rfl (fun c29 => ?_) (fun c29 => ?_)
        · obtain ⟨S1, hS1⟩ := itm_some c29
          have e1 := h3 S1 (by rw [hS1])
          subst e1
          have hN := nx1_some (tb := tb) (tl := tl) (f := prs tb tl (120 - n)) (n := n) hS1
          have hnx := nx_rng hR hx.2
          refine v_aload_n (pc := 34) 0 g dX3_tellAll_34 rfl rfl ?_
          refine v_dup (pc := 35) g dX3_tellAll_35 rfl ?_
          refine v_get (pc := 36) g dX3_tellAll_36 fl_X3_9 rfl rfl ?_
          refine v_iconst (pc := 39) (v := 1) g dX3_tellAll_39 (by decide) ?_
          refine v_iadd (pc := 40) g dX3_tellAll_40 ?_
          rw [nI_1]
          refine v_put (pc := 41) _ g dX3_tellAll_41 fp_X3_9 rfl (Nat.le_of_ble_eq_true rfl) rfl rfl rfl rfl ?_
          refine v_w (wtW (nI (n + 1)) (nI ((it1 tb tl s0 b).2)) (nI (enT tb tl ((it1 tb tl s0 b).2))) (nI (tkT tb tl ((it1 tb tl s0 b).2))) v1 tb tl s1 we) rfl ?_
          refine v_aload_n (pc := 44) 0 g dX3_tellAll_44 rfl rfl ?_
          refine v_get (pc := 45) g dX3_tellAll_45 fl_X3_21 rfl rfl ?_
          refine v_if_ne (pc := 48) 53 g dX3_tellAll_48 rfl (fun c48 => ?_) (fun c48 => ?_)
          · have e48 : ¬ tkT tb tl (it1 tb tl s0 b).2 = 0 := fun z => c48 (by rw [z]; rfl)
            refine v_aload_n (pc := 53) 0 g dX3_tellAll_53 rfl rfl ?_
            refine v_get (pc := 54) g dX3_tellAll_54 fl_X3_21 rfl rfl ?_
            refine v_iconst (pc := 57) (v := 3) g dX3_tellAll_57 (by decide) ?_
            refine v_icmp_eq (pc := 58) 63 g dX3_tellAll_58 rfl (fun c58 => ?_) (fun c58 => ?_)
            · have e58 : tkT tb tl (it1 tb tl s0 b).2 = 3 := nI_inj (b := 3) (by have := tk_lt tb tl (it1 tb tl s0 b).2; omega) (by omega) c58
              refine v_aload_n (pc := 63) 0 g dX3_tellAll_63 rfl rfl ?_
              refine v_aload_n (pc := 64) 1 g dX3_tellAll_64 rfl rfl ?_
              refine v_cVd (pc := 65) g dX3_tellAll_65 lk_X3_27 (c_X3_step (enT tb tl ((it1 tb tl s0 b).2)) (nxT tb tl ((it1 tb tl s0 b).2)) hl (en_rng hR hx.2).2.1 rfl) (Nat.le_of_ble_eq_true rfl) rfl rfl rfl rfl (Nat.le_of_ble_eq_true rfl) ?_
              refine v_iincN (pc := 68) g dX3_tellAll_68 rfl hnL.symm ?_
              refine v_goto (pc := 71) 17 g dX3_tellAll_71 rfl ?_
              exact ih s1 (nxT tb tl (it1 tb tl s0 b).2) (n + 1) _ (by have := hnx.2.2 e48; have := hx.1; omega) hnx.2.1 (okV_U _ _ _ _) (it1_n h8 (by rw [hS1])) (by rw [hP, hN]; unfold nx2; rw [if_neg e48, if_pos e58, show 121 - (n + 1) = 120 - n by omega]) (by have := hnx.2.2 e48; have := hx.1; have := hnx.2.1; omega)
            · have e58 : ¬ tkT tb tl (it1 tb tl s0 b).2 = 3 := fun z => c58 (by rw [z]; rfl)
              refine v_iconst (pc := 61) (v := 0) g dX3_tellAll_61 (by decide) ?_
              exact v_zret (pc := 62) g hret dX3_tellAll_62 (by first | exact nb1 | exact nb0 | exact nbI) (QA_no (by rw [hP, hN]; unfold nx2; rw [if_neg e48, if_neg e58]))
          · have e48 : tkT tb tl (it1 tb tl s0 b).2 = 0 := nI_inj (b := 0) (by have := tk_lt tb tl (it1 tb tl s0 b).2; omega) (by omega) c48
            refine v_iconst (pc := 51) (v := 1) g dX3_tellAll_51 (by decide) ?_
            exact v_zret (pc := 52) g hret dX3_tellAll_52 (by first | exact nb1 | exact nb0 | exact nbI) (QA_ok (by rw [hP, hN]; unfold nx2; rw [if_pos e48]))
        · have hN := nx1_none (tb := tb) (tl := tl) (f := prs tb tl (120 - n)) (n := n) (itm_none c29)
          refine v_iconst (pc := 32) (v := 0) g dX3_tellAll_32 (by decide) ?_
          exact v_zret (pc := 33) g hret dX3_tellAll_33 (by first | exact nb1 | exact nb0 | exact nbI) (QA_no (by rw [hP, hN]))
  exact L17 (tl + 1) s (bgT tb tl 0) 0 _ (Nat.zero_le _) (bg_rng (Nat.zero_le _)).2 (okV_U _ _ _ _) h80 rfl (by omega)
