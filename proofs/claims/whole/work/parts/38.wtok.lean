/-! ===== Winter: its cells beside a tape and a street; tokens ===== -/
def wtW (ni ns ne nk nv : Int32) (tb : Nat → Int32) (tl : Nat) (s : St) (we : Int32) : PW := [.inr (3, [.int ni, .int ns, .int ne, .int nk, .int nv]), .inr (2, [.ref 2, .int (nI tl)]), .inl (120, .inl tb), .inr (1, [.int (sMi s), .int (sDr s), .ref 4, .ref 5, .ref 6, .int (nI (sN s)), .ref 7, .ref 8, .ref 9, .ref 10, .ref 11, .ref 12, .int we]), .inl (12, .inl (sLa s)), .inl (12, .inl (sBo s)), .inl (12, .inl (sRe s)), .inl (8, .inl (sKi s)), .inl (8, .inl (sAt s)), .inl (8, .inl (sFa s)), .inl (8, .inl (sCo s)), .inl (8, .inl (sTi s)), .inl (8, .inl (sGo s))]
theorem tw_byteAt {ni ns ne nk nv : Int32} {tb : Nat → Int32} {tl : Nat} {s : St} {we : Int32} (k : Nat) (hl : tl ≤ 120) (hk : k < 1000) : RunD 0 yX2_byteAt cX2_byteAt 2 (some .int) [.ref 1, .int (nI k)] (wtW ni ns ne nk nv tb tl s we) (some (.int (byt tb tl k))) (wtW ni ns ne nk nv tb tl s we) := RunD.lift [1, 2] _ _ (c_X2_byteAt tb tl k hl hk) rfl rfl (by decide) rfl rfl rfl
theorem tw_addOne {ni ns ne nk nv : Int32} {tb : Nat → Int32} {tl : Nat} {s : St} {we : Int32} (kd h : Int32) (hn : sN s < 8) : RunD 0 yX1_addOne cX1_addOne 4 (some .int) [.ref 3, .int kd, .int h] (wtW ni ns ne nk nv tb tl s we) (some (.int (nI (sN s)))) (wtW ni ns ne nk nv tb tl (addS s kd h 1 20 0) we) := RunD.lift [3, 4, 5, 6, 7, 8, 9, 10, 11, 12] _ _ (c_X1_addOne s we kd h hn) rfl rfl (by decide) rfl rfl rfl
theorem st_0 {ni nv : Int32} {tb : Nat → Int32} {tl : Nat} {s : St} {we : Int32} {b : Nat} (h : tkT tb tl b = 0) : wtW ni (nI b) (nI b) 0 nv tb tl s we = wtW ni (nI (b)) (nI (enT tb tl (b))) (nI (tkT tb tl (b))) (nvU tb tl b nv) tb tl s we := by
  unfold nvU; rw [en_0 h, h, if_neg (by omega)]; rfl
theorem st_1 {ni nv : Int32} {tb : Nat → Int32} {tl : Nat} {s : St} {we : Int32} {b k : Nat} (h : tkT tb tl b = 1) (hk : sc (qL tb tl) tl b = k) : wtW ni (nI b) (nI k) 1 nv tb tl s we = wtW ni (nI (b)) (nI (enT tb tl (b))) (nI (tkT tb tl (b))) (nvU tb tl b nv) tb tl s we := by
  unfold nvU; rw [en_1 h, h, if_neg (by omega), hk]; rfl
theorem st_2 {ni nv : Int32} {tb : Nat → Int32} {tl : Nat} {s : St} {we : Int32} {b k : Nat} (h : tkT tb tl b = 2) (hk : sc (qD tb tl) tl b = k) : wtW ni (nI b) (nI k) 2 (cvN (byt tb tl) b (k - b)) tb tl s we = wtW ni (nI (b)) (nI (enT tb tl (b))) (nI (tkT tb tl (b))) (nvU tb tl b nv) tb tl s we := by
  unfold nvU nvT; rw [en_2 h, h, if_pos rfl, hk]; rfl
theorem st_3 {ni nv : Int32} {tb : Nat → Int32} {tl : Nat} {s : St} {we : Int32} {b t : Nat} (h : tkT tb tl b = t) (ht : 3 ≤ t) : wtW ni (nI b) (nI (b + 1)) (nI t) nv tb tl s we = wtW ni (nI (b)) (nI (enT tb tl (b))) (nI (tkT tb tl (b))) (nvU tb tl b nv) tb tl s we := by
  unfold nvU; rw [en_3 (by omega), h, if_neg (by omega)]
theorem tk0_3 {v : Int32} (h0 : ¬ v.toInt < 0) (h1 : ¬ isL v) (h2 : ¬ isD v) (h3 : v = 59) : tk0 v = 3 := by
  unfold tk0; rw [if_neg h0, if_neg h1, if_neg h2, if_pos h3]
theorem tk0_4 {v : Int32} (h0 : ¬ v.toInt < 0) (h1 : ¬ isL v) (h2 : ¬ isD v) (h3 : ¬ v = 59) : tk0 v = 4 := by
  unfold tk0; rw [if_neg h0, if_neg h1, if_neg h2, if_neg h3]
theorem tk0_0 {v : Int32} (h0 : v.toInt < 0) : tk0 v = 0 := if_pos h0
set_option maxRecDepth 20000 in
set_option maxHeartbeats 2000000 in
theorem c_X3_step {ni ns nk nv : Int32} {tb : Nat → Int32} {tl : Nat} {s : St} {we : Int32} (p b : Nat) (hl : tl ≤ 120) (hp : p ≤ tl) (hb : bgT tb tl p = b) : RunD 1 yX3_step cX3_step 3 none [.ref 0, .ref 1] (wtW ni ns (nI p) nk nv tb tl s we) (none) (wtW ni (nI (b)) (nI (enT tb tl (b))) (nI (tkT tb tl (b))) (nvU tb tl b nv) tb tl s we) := by
  refine Runs.of (by decide) (Nat.le_of_ble_eq_true rfl) rfl ?_
  intro X g hret hnL
  have hb2 : b ≤ tl := by rw [← hb]; exact (bg_rng (tb := tb) hp).2
  have J45 : V X 45 [some (.ref 0), some (.ref 1), none] [] (wtW ni (nI b) (nI p) nk nv tb tl s we) := by
    refine v_aload_n (pc := 45) 0 g dX3_step_45 rfl rfl ?_
    refine v_aload_n (pc := 46) 0 g dX3_step_46 rfl rfl ?_
    refine v_get (pc := 47) g dX3_step_47 fl_X3_15 rfl rfl ?_
    refine v_put (pc := 50) _ g dX3_step_50 fp_X3_18 rfl (Nat.le_of_ble_eq_true rfl) rfl rfl rfl rfl ?_
    refine v_aload_n (pc := 53) 1 g dX3_step_53 rfl rfl ?_
    refine v_aload_n (pc := 54) 0 g dX3_step_54 rfl rfl ?_
    refine v_get (pc := 55) g dX3_step_55 fl_X3_15 rfl rfl ?_
    refine v_cVd (pc := 58) g dX3_step_58 lk_X3_127 (tw_byteAt b hl (by omega)) (Nat.le_of_ble_eq_true rfl) rfl rfl rfl rfl (Nat.le_of_ble_eq_true rfl) ?_
    refine v_istore_n (pc := 61) 2 _ g dX3_step_61 rfl (Nat.le_of_ble_eq_true rfl) hnL.symm rfl ?_
    refine v_iload_n (pc := 62) 2 g dX3_step_62 rfl rfl ?_
    refine v_if_ge (pc := 63) 74 g dX3_step_63 rfl (fun c63 => ?_) (fun c63 => ?_)
    · have h0 : ¬ (byt tb tl b).toInt < 0 := by have := i_le.mp c63; have h0 : (0 : Int32).toInt = 0 := rfl; omega
      refine v_iload_n (pc := 74) 2 g dX3_step_74 rfl rfl ?_
      refine v_cSd (pc := 75) g dX3_step_75 lk_X3_139 ((c_X3_isLetter _).any rfl rfl _) (Nat.le_of_ble_eq_true rfl) rfl rfl (Nat.le_of_ble_eq_true rfl) ?_
      refine v_ifb_eq (pc := 78) 124 g dX3_step_78 rfl (fun c78 => ?_) (fun c78 => ?_)
      · refine v_iload_n (pc := 124) 2 g dX3_step_124 rfl rfl ?_
        refine v_cSd (pc := 125) g dX3_step_125 lk_X3_142 ((c_X3_isDigit _).any rfl rfl _) (Nat.le_of_ble_eq_true rfl) rfl rfl (Nat.le_of_ble_eq_true rfl) ?_
        refine v_ifb_eq (pc := 128) 208 g dX3_step_128 rfl (fun c128 => ?_) (fun c128 => ?_)
        · refine v_aload_n (pc := 208) 0 g dX3_step_208 rfl rfl ?_
          refine v_iload_n (pc := 209) 2 g dX3_step_209 rfl rfl ?_
          refine v_bipush (pc := 210) (v := 59) g dX3_step_210 (by decide) ?_
          refine v_icmp_ne (pc := 212) 219 g dX3_step_212 rfl (fun c212 => ?_) (fun c212 => ?_)
          · have hF := st_3 (ni := ni) (nv := nv) (s := s) (we := we) (t := 4) (show tkT tb tl b = 4 from tk0_4 h0 c78 c128 c212) (by omega)
            refine v_iconst (pc := 219) (v := 4) g dX3_step_219 (by decide) ?_
            refine v_put (pc := 220) _ g dX3_step_220 fp_X3_21 rfl (Nat.le_of_ble_eq_true rfl) rfl rfl rfl rfl ?_
            refine v_aload_n (pc := 223) 0 g dX3_step_223 rfl rfl ?_
            refine v_dup (pc := 224) g dX3_step_224 rfl ?_
            refine v_get (pc := 225) g dX3_step_225 fl_X3_18 rfl rfl ?_
            refine v_iconst (pc := 228) (v := 1) g dX3_step_228 (by decide) ?_
            refine v_iadd (pc := 229) g dX3_step_229 ?_
            rw [nI_1]
            refine v_put (pc := 230) _ g dX3_step_230 fp_X3_18 rfl (Nat.le_of_ble_eq_true rfl) rfl rfl rfl rfl ?_
            exact v_vret (pc := 233) g hret dX3_step_233 (⟨rfl, hF⟩)
          · have hF := st_3 (ni := ni) (nv := nv) (s := s) (we := we) (t := 3) (show tkT tb tl b = 3 from tk0_3 h0 c78 c128 c212) (by omega)
            refine v_iconst (pc := 215) (v := 3) g dX3_step_215 (by decide) ?_
            refine v_goto (pc := 216) 220 g dX3_step_216 rfl ?_
            refine v_put (pc := 220) _ g dX3_step_220 fp_X3_21 rfl (Nat.le_of_ble_eq_true rfl) rfl rfl rfl rfl ?_
            refine v_aload_n (pc := 223) 0 g dX3_step_223 rfl rfl ?_
            refine v_dup (pc := 224) g dX3_step_224 rfl ?_
            refine v_get (pc := 225) g dX3_step_225 fl_X3_18 rfl rfl ?_
            refine v_iconst (pc := 228) (v := 1) g dX3_step_228 (by decide) ?_
            refine v_iadd (pc := 229) g dX3_step_229 ?_
            rw [nI_1]
            refine v_put (pc := 230) _ g dX3_step_230 fp_X3_18 rfl (Nat.le_of_ble_eq_true rfl) rfl rfl rfl rfl ?_
            exact v_vret (pc := 233) g hret dX3_step_233 (⟨rfl, hF⟩)
        · have h2 : tkT tb tl b = 2 := tk_2.mpr (decide_eq_true c128)
          refine v_aload_n (pc := 131) 0 g dX3_step_131 rfl rfl ?_
          refine v_iconst (pc := 132) (v := 2) g dX3_step_132 (by decide) ?_
          refine v_put (pc := 133) _ g dX3_step_133 fp_X3_21 rfl (Nat.le_of_ble_eq_true rfl) rfl rfl rfl rfl ?_
          refine v_aload_n (pc := 136) 0 g dX3_step_136 rfl rfl ?_
          refine v_iconst (pc := 137) (v := 0) g dX3_step_137 (by decide) ?_
          refine v_put (pc := 138) _ g dX3_step_138 fp_X3_24 rfl (Nat.le_of_ble_eq_true rfl) rfl rfl rfl rfl ?_
          have L141 : ∀ (fu : Nat) (k : Nat), b ≤ k → k ≤ tl → sc (qD tb tl) tl b = sc (qD tb tl) tl k → tl - k < fu → V X 141 [some (.ref 0), some (.ref 1), some (.int (byt tb tl b))] [] (wtW ni (nI b) (nI k) 2 (cvN (byt tb tl) b (k - b)) tb tl s we) := by
            intro fu
            induction fu with
            | zero => intro k hkb hk hq hm; exact absurd hm (Nat.not_lt_zero _)
            | succ fu ih =>
              intro k hkb hk hq hm
              refine v_aload_n (pc := 141) 0 g dX3_step_141 rfl rfl ?_
              refine v_get (pc := 142) g dX3_step_142 fl_X3_18 rfl rfl ?_
              refine v_aload_n (pc := 145) 1 g dX3_step_145 rfl rfl ?_
              refine v_get (pc := 146) g dX3_step_146 fl_X3_137 rfl rfl ?_
              refine v_icmp_ge (pc := 149) 233 g dX3_step_149 rfl (fun c149 => ?_) (fun c149 => ?_)
              · have e149 : k = tl := ge_t (n := tl) rfl hk (by omega) c149
                have hF := st_2 (ni := ni) (nv := nv) (s := s) (we := we) (k := k) h2 (by rw [hq, sc_e (by omega)])
                exact v_vret (pc := 233) g hret dX3_step_233 (⟨rfl, hF⟩)
              · have e149 : k < tl := ge_f (n := tl) rfl hk (by omega) c149
                refine v_aload_n (pc := 152) 1 g dX3_step_152 rfl rfl ?_
                refine v_aload_n (pc := 153) 0 g dX3_step_153 rfl rfl ?_
                refine v_get (pc := 154) g dX3_step_154 fl_X3_18 rfl rfl ?_
                refine v_cVd (pc := 157) g dX3_step_157 lk_X3_127 (tw_byteAt k hl (by omega)) (Nat.le_of_ble_eq_true rfl) rfl rfl rfl rfl (Nat.le_of_ble_eq_true rfl) ?_
                refine v_cSd (pc := 160) g dX3_step_160 lk_X3_142 ((c_X3_isDigit _).any rfl rfl _) (Nat.le_of_ble_eq_true rfl) rfl rfl (Nat.le_of_ble_eq_true rfl) ?_
                refine v_ifb_eq (pc := 163) 233 g dX3_step_163 rfl (fun c163 => ?_) (fun c163 => ?_)
                · have hF := st_2 (ni := ni) (nv := nv) (s := s) (we := we) (k := k) h2 (by rw [hq, sc_f (decide_eq_false c163)])
                  exact v_vret (pc := 233) g hret dX3_step_233 (⟨rfl, hF⟩)
                · have eq : sc (qD tb tl) tl k = sc (qD tb tl) tl (k + 1) := sc_t e149 (decide_eq_true c163)
                  refine v_aload_n (pc := 166) 0 g dX3_step_166 rfl rfl ?_
                  refine v_sipush (pc := 167) (v := 1000) g dX3_step_167 (by decide) ?_
                  refine v_bipush (pc := 170) (v := 10) g dX3_step_170 (by decide) ?_
                  refine v_aload_n (pc := 172) 0 g dX3_step_172 rfl rfl ?_
                  refine v_get (pc := 173) g dX3_step_173 fl_X3_24 rfl rfl ?_
                  refine v_imul (pc := 176) g dX3_step_176 ?_
                  refine v_aload_n (pc := 177) 1 g dX3_step_177 rfl rfl ?_
                  refine v_aload_n (pc := 178) 0 g dX3_step_178 rfl rfl ?_
                  refine v_get (pc := 179) g dX3_step_179 fl_X3_18 rfl rfl ?_
                  refine v_cVd (pc := 182) g dX3_step_182 lk_X3_127 (tw_byteAt k hl (by omega)) (Nat.le_of_ble_eq_true rfl) rfl rfl rfl rfl (Nat.le_of_ble_eq_true rfl) ?_
                  refine v_iadd (pc := 185) g dX3_step_185 ?_
                  refine v_bipush (pc := 186) (v := 48) g dX3_step_186 (by decide) ?_
                  refine v_isub (pc := 188) g dX3_step_188 ?_
                  refine v_min (pc := 189) g dX3_step_189 lk_X3_145 (Nat.le_of_ble_eq_true rfl) (Nat.le_of_ble_eq_true rfl) ?_
                  refine v_put (pc := 192) _ g dX3_step_192 fp_X3_24 rfl (Nat.le_of_ble_eq_true rfl) rfl rfl rfl rfl ?_
                  refine v_aload_n (pc := 195) 0 g dX3_step_195 rfl rfl ?_
                  refine v_dup (pc := 196) g dX3_step_196 rfl ?_
                  refine v_get (pc := 197) g dX3_step_197 fl_X3_18 rfl rfl ?_
                  refine v_iconst (pc := 200) (v := 1) g dX3_step_200 (by decide) ?_
                  refine v_iadd (pc := 201) g dX3_step_201 ?_
                  rw [nI_1]
                  refine v_put (pc := 202) _ g dX3_step_202 fp_X3_18 rfl (Nat.le_of_ble_eq_true rfl) rfl rfl rfl rfl ?_
                  refine v_goto (pc := 205) 141 g dX3_step_205 rfl ?_
                  refine v_w (wtW ni (nI b) (nI (k + 1)) 2 (cvN (byt tb tl) b (k + 1 - b)) tb tl s we) (by rw [show k + 1 - b = (k - b) + 1 by omega, cvN, show b + (k - b) = k by omega]; rfl) ?_
                  exact ih (k + 1) (by omega) (by omega) (by rw [hq, eq]) (by omega)
          refine v_w (wtW ni (nI b) (nI b) 2 (cvN (byt tb tl) b (b - b)) tb tl s we) (by rw [Nat.sub_self]; rfl) ?_
          exact L141 (tl - b + 1) b (Nat.le_refl _) hb2 rfl (by omega)
      · have h1 : tkT tb tl b = 1 := tk_1.mpr (decide_eq_true c78)
        refine v_aload_n (pc := 81) 0 g dX3_step_81 rfl rfl ?_
        refine v_iconst (pc := 82) (v := 1) g dX3_step_82 (by decide) ?_
        refine v_put (pc := 83) _ g dX3_step_83 fp_X3_21 rfl (Nat.le_of_ble_eq_true rfl) rfl rfl rfl rfl ?_
        have L86 : ∀ (fu : Nat) (k : Nat), b ≤ k → k ≤ tl → sc (qL tb tl) tl b = sc (qL tb tl) tl k → tl - k < fu → V X 86 [some (.ref 0), some (.ref 1), some (.int (byt tb tl b))] [] (wtW ni (nI b) (nI k) 1 nv tb tl s we) := by
          intro fu
          induction fu with
          | zero => intro k hkb hk hq hm; exact absurd hm (Nat.not_lt_zero _)
          | succ fu ih =>
            intro k hkb hk hq hm
            refine v_aload_n (pc := 86) 0 g dX3_step_86 rfl rfl ?_
            refine v_get (pc := 87) g dX3_step_87 fl_X3_18 rfl rfl ?_
            refine v_aload_n (pc := 90) 1 g dX3_step_90 rfl rfl ?_
            refine v_get (pc := 91) g dX3_step_91 fl_X3_137 rfl rfl ?_
            refine v_icmp_ge (pc := 94) 233 g dX3_step_94 rfl (fun c94 => ?_) (fun c94 => ?_)
            · have e94 : k = tl := ge_t (n := tl) rfl hk (by omega) c94
              have hF := st_1 (ni := ni) (nv := nv) (s := s) (we := we) (k := k) h1 (by rw [hq, sc_e (by omega)])
              exact v_vret (pc := 233) g hret dX3_step_233 (⟨rfl, hF⟩)
            · have e94 : k < tl := ge_f (n := tl) rfl hk (by omega) c94
              refine v_aload_n (pc := 97) 1 g dX3_step_97 rfl rfl ?_
              refine v_aload_n (pc := 98) 0 g dX3_step_98 rfl rfl ?_
              refine v_get (pc := 99) g dX3_step_99 fl_X3_18 rfl rfl ?_
              refine v_cVd (pc := 102) g dX3_step_102 lk_X3_127 (tw_byteAt k hl (by omega)) (Nat.le_of_ble_eq_true rfl) rfl rfl rfl rfl (Nat.le_of_ble_eq_true rfl) ?_
              refine v_cSd (pc := 105) g dX3_step_105 lk_X3_139 ((c_X3_isLetter _).any rfl rfl _) (Nat.le_of_ble_eq_true rfl) rfl rfl (Nat.le_of_ble_eq_true rfl) ?_
              refine v_ifb_eq (pc := 108) 233 g dX3_step_108 rfl (fun c108 => ?_) (fun c108 => ?_)
              · have hF := st_1 (ni := ni) (nv := nv) (s := s) (we := we) (k := k) h1 (by rw [hq, sc_f (decide_eq_false c108)])
                exact v_vret (pc := 233) g hret dX3_step_233 (⟨rfl, hF⟩)
              · have eq : sc (qL tb tl) tl k = sc (qL tb tl) tl (k + 1) := sc_t e94 (decide_eq_true c108)
                refine v_aload_n (pc := 111) 0 g dX3_step_111 rfl rfl ?_
                refine v_dup (pc := 112) g dX3_step_112 rfl ?_
                refine v_get (pc := 113) g dX3_step_113 fl_X3_18 rfl rfl ?_
                refine v_iconst (pc := 116) (v := 1) g dX3_step_116 (by decide) ?_
                refine v_iadd (pc := 117) g dX3_step_117 ?_
                rw [nI_1]
                refine v_put (pc := 118) _ g dX3_step_118 fp_X3_18 rfl (Nat.le_of_ble_eq_true rfl) rfl rfl rfl rfl ?_
                refine v_goto (pc := 121) 86 g dX3_step_121 rfl ?_
                exact ih (k + 1) (by omega) (by omega) (by rw [hq, eq]) (by omega)
        exact L86 (tl - b + 1) b (Nat.le_refl _) hb2 rfl (by omega)
    · have h0 : tkT tb tl b = 0 := tk0_0 (by have := i_lt.mp (Int32.not_le.mp c63); have h0 : (0 : Int32).toInt = 0 := rfl; omega)
      have hF := st_0 (ni := ni) (nv := nv) (s := s) (we := we) h0
      refine v_aload_n (pc := 66) 0 g dX3_step_66 rfl rfl ?_
      refine v_iconst (pc := 67) (v := 0) g dX3_step_67 (by decide) ?_
      refine v_put (pc := 68) _ g dX3_step_68 fp_X3_21 rfl (Nat.le_of_ble_eq_true rfl) rfl rfl rfl rfl ?_
      refine v_goto (pc := 71) 233 g dX3_step_71 rfl ?_
      exact v_vret (pc := 233) g hret dX3_step_233 (⟨rfl, hF⟩)
  refine v_aload_n (pc := 0) 0 g dX3_step_0 rfl rfl ?_
  refine v_aload_n (pc := 1) 0 g dX3_step_1 rfl rfl ?_
  refine v_get (pc := 2) g dX3_step_2 fl_X3_18 rfl rfl ?_
  refine v_put (pc := 5) _ g dX3_step_5 fp_X3_15 rfl (Nat.le_of_ble_eq_true rfl) rfl rfl rfl rfl ?_
  have L8 : ∀ (fu : Nat) (k : Nat), k ≤ tl → bgT tb tl p = bgT tb tl k → tl - k < fu → V X 8 [some (.ref 0), some (.ref 1), none] [] (wtW ni (nI k) (nI p) nk nv tb tl s we) := by
    intro fu
    induction fu with
    | zero => intro k hk hq hm; exact absurd hm (Nat.not_lt_zero _)
    | succ fu ih =>
      intro k hk hq hm
      refine v_aload_n (pc := 8) 0 g dX3_step_8 rfl rfl ?_
      refine v_get (pc := 9) g dX3_step_9 fl_X3_15 rfl rfl ?_
      refine v_aload_n (pc := 12) 1 g dX3_step_12 rfl rfl ?_
      refine v_get (pc := 13) g dX3_step_13 fl_X3_137 rfl rfl ?_
      refine v_icmp_ge (pc := 16) 45 g dX3_step_16 rfl (fun c16 => ?_) (fun c16 => ?_)
      · have e16 : k = tl := ge_t (n := tl) rfl hk (by omega) c16
        have eb : k = b := by rw [← hb, hq]; unfold bgT; rw [sc_e (by omega)]
        subst eb
        exact J45
      · have e16 : k < tl := ge_f (n := tl) rfl hk (by omega) c16
        refine v_aload_n (pc := 19) 1 g dX3_step_19 rfl rfl ?_
        refine v_aload_n (pc := 20) 0 g dX3_step_20 rfl rfl ?_
        refine v_get (pc := 21) g dX3_step_21 fl_X3_15 rfl rfl ?_
        refine v_cVd (pc := 24) g dX3_step_24 lk_X3_127 (tw_byteAt k hl (by omega)) (Nat.le_of_ble_eq_true rfl) rfl rfl rfl rfl (Nat.le_of_ble_eq_true rfl) ?_
        refine v_bipush (pc := 27) (v := 32) g dX3_step_27 (by decide) ?_
        refine v_icmp_ne (pc := 29) 45 g dX3_step_29 rfl (fun c29 => ?_) (fun c29 => ?_)
        · have eb : k = b := by rw [← hb, hq]; unfold bgT; rw [sc_f (decide_eq_false c29)]
          subst eb
          exact J45
        · have eq : bgT tb tl k = bgT tb tl (k + 1) := sc_t e16 (decide_eq_true c29)
          refine v_aload_n (pc := 32) 0 g dX3_step_32 rfl rfl ?_
          refine v_dup (pc := 33) g dX3_step_33 rfl ?_
          refine v_get (pc := 34) g dX3_step_34 fl_X3_15 rfl rfl ?_
          refine v_iconst (pc := 37) (v := 1) g dX3_step_37 (by decide) ?_
          refine v_iadd (pc := 38) g dX3_step_38 ?_
          rw [nI_1]
          refine v_put (pc := 39) _ g dX3_step_39 fp_X3_15 rfl (Nat.le_of_ble_eq_true rfl) rfl rfl rfl rfl ?_
          refine v_goto (pc := 42) 8 g dX3_step_42 rfl ?_
          exact ih (k + 1) (by omega) (by rw [hq, eq]) (by omega)
  exact L8 (tl - p + 1) p hp rfl (by omega)
set_option maxRecDepth 20000 in
set_option maxHeartbeats 2000000 in
theorem c_X3_isNumber {ni nv : Int32} {tb : Nat → Int32} {tl : Nat} {s : St} {we : Int32} (b : Nat) (m : Int32) (y : Int) (hv : okV tb tl b nv) (hm : m.toInt = y) : RunD 1 yX3_isNumber cX3_isNumber 2 (some .boolean) [.ref 0, .int m] (wtW ni (nI (b)) (nI (enT tb tl (b))) (nI (tkT tb tl (b))) nv tb tl s we) (some (.int (bI (numT tb tl b y)))) (wtW ni (nI (b)) (nI (enT tb tl (b))) (nI (tkT tb tl (b))) nv tb tl s we) := by
  refine Runs.of (by decide) (Nat.le_of_ble_eq_true rfl) rfl ?_
  intro X g hret hnL
  refine v_aload_n (pc := 0) 0 g dX3_isNumber_0 rfl rfl ?_
  refine v_get (pc := 1) g dX3_isNumber_1 fl_X3_21 rfl rfl ?_
  refine v_iconst (pc := 4) (v := 2) g dX3_isNumber_4 (by decide) ?_
  have ht5 := tk_lt tb tl b
  refine v_icmp_ne (pc := 5) 24 g dX3_isNumber_5 rfl (fun c5 => ?_) (fun c5 => ?_)
  · have e5 : ¬ tkT tb tl b = 2 := fun z => c5 (by rw [z]; rfl)
    refine v_iconst (pc := 24) (v := 0) g dX3_isNumber_24 (by decide) ?_
    exact v_zret (pc := 25) g hret dX3_isNumber_25 (by first | exact nb1 | exact nb0 | exact nbI) (by first | (refine ⟨so0 (fun z => e5 z.1), rfl⟩) | (refine ⟨so1 ⟨e5, ?_⟩, rfl⟩; rw [← hv e5]; exact c17) | (refine ⟨so0 (fun z => c17 ?_), rfl⟩; rw [hv e5]; exact z.2))
  · have e5 : tkT tb tl b = 2 := nI_inj (b := 2) (by omega) (by omega) c5
    refine v_aload_n (pc := 8) 0 g dX3_isNumber_8 rfl rfl ?_
    refine v_get (pc := 9) g dX3_isNumber_9 fl_X3_24 rfl rfl ?_
    refine v_iconst (pc := 12) (v := 0) g dX3_isNumber_12 (by decide) ?_
    refine v_iload_n (pc := 13) 1 g dX3_isNumber_13 rfl rfl ?_
    refine v_cNd (pc := 14) g dX3_isNumber_14 lk_X3_117 ((c_X4_within _ _ _ 0 y rfl hm).any rfl rfl _) (Nat.le_of_ble_eq_true rfl) rfl rfl (Nat.le_of_ble_eq_true rfl) ?_
    refine v_ifb_eq (pc := 17) 24 g dX3_isNumber_17 rfl (fun c17 => ?_) (fun c17 => ?_)
    · refine v_iconst (pc := 24) (v := 0) g dX3_isNumber_24 (by decide) ?_
      exact v_zret (pc := 25) g hret dX3_isNumber_25 (by first | exact nb1 | exact nb0 | exact nbI) (by first | (refine ⟨so0 (fun z => e5 z.1), rfl⟩) | (refine ⟨so1 ⟨e5, ?_⟩, rfl⟩; rw [← hv e5]; exact c17) | (refine ⟨so0 (fun z => c17 ?_), rfl⟩; rw [hv e5]; exact z.2))
    · refine v_iconst (pc := 20) (v := 1) g dX3_isNumber_20 (by decide) ?_
      refine v_goto (pc := 21) 25 g dX3_isNumber_21 rfl ?_
      exact v_zret (pc := 25) g hret dX3_isNumber_25 (by first | exact nb1 | exact nb0 | exact nbI) (by first | (refine ⟨so0 (fun z => e5 z.1), rfl⟩) | (refine ⟨so1 ⟨e5, ?_⟩, rfl⟩; rw [← hv e5]; exact c17) | (refine ⟨so0 (fun z => c17 ?_), rfl⟩; rw [hv e5]; exact z.2))
set_option maxRecDepth 20000 in
set_option maxHeartbeats 2000000 in
theorem c_X3_isWord {ni nv : Int32} {tb : Nat → Int32} {tl : Nat} {s : St} {we : Int32} (b i : Nat) (hR : tpR tb) (hl : tl ≤ 120) (hb : b ≤ tl) (hi : i < 13) : RunD 4 yX3_isWord cX3_isWord 4 (some .boolean) [.ref 0, .ref 1, .ref (1000 + i)] (wtW ni (nI (b)) (nI (enT tb tl (b))) (nI (tkT tb tl (b))) nv tb tl s we) (some (.int (bI (isW tb tl b i = true)))) (wtW ni (nI (b)) (nI (enT tb tl (b))) (nI (tkT tb tl (b))) nv tb tl s we) := by
  refine Runs.of (by decide) (Nat.le_of_ble_eq_true rfl) rfl ?_
  intro X g hret hnL
  have hen := en_rng hR hb
  have h8 := lnS_lt i
  have ht5 := tk_lt tb tl b
  refine v_aload_n (pc := 0) 0 g dX3_isWord_0 rfl rfl ?_
  refine v_get (pc := 1) g dX3_isWord_1 fl_X3_21 rfl rfl ?_
  refine v_iconst (pc := 4) (v := 1) g dX3_isWord_4 (by decide) ?_
  refine v_icmp_ne (pc := 5) 24 g dX3_isWord_5 rfl (fun c5 => ?_) (fun c5 => ?_)
  · have e5 : isW tb tl b i = false := by unfold isW; rw [decide_eq_false (fun z => c5 (by rw [z.1]; rfl))]; rfl
    refine v_iconst (pc := 24) (v := 0) g dX3_isWord_24 (by decide) ?_
    exact v_zret (pc := 25) g hret dX3_isWord_25 (by first | exact nb1 | exact nb0 | exact nbI) (⟨so0 (by rw [e5]; exact Bool.false_ne_true), rfl⟩)
  · have e5 : tkT tb tl b = 1 := nI_inj (b := 1) (by omega) (by omega) c5
    refine v_aload_n (pc := 8) 0 g dX3_isWord_8 rfl rfl ?_
    refine v_get (pc := 9) g dX3_isWord_9 fl_X3_18 rfl rfl ?_
    refine v_aload_n (pc := 12) 0 g dX3_isWord_12 rfl rfl ?_
    refine v_get (pc := 13) g dX3_isWord_13 fl_X3_15 rfl rfl ?_
    refine v_isub (pc := 16) g dX3_isWord_16 ?_
    rw [pk_sub hen.1]
    refine v_aload_n (pc := 17) 2 g dX3_isWord_17 rfl rfl ?_
    refine v_cVs (pc := 18) g dX3_isWord_18 lk_X3_121 (c_strLen _ i hi) (Nat.le_of_ble_eq_true rfl) rfl rfl hi rfl (Nat.le_of_ble_eq_true rfl) ?_
    refine v_icmp_eq (pc := 21) 26 g dX3_isWord_21 rfl (fun c21 => ?_) (fun c21 => ?_)
    · have e21 : enT tb tl b = b + lnS i := by have := nI_inj (by omega) (by omega) c21; omega
      refine v_iconst (pc := 26) (v := 0) g dX3_isWord_26 (by decide) ?_
      refine v_istore_n (pc := 27) 3 _ g dX3_isWord_27 rfl (Nat.le_of_ble_eq_true rfl) hnL.symm rfl ?_
      have L28 : ∀ (fu : Nat) (k : Nat), k ≤ lnS i → eqW (fun k => byt tb tl (b + k)) (chS i) k = true → lnS i - k < fu → V X 28 [some (.ref 0), some (.ref 1), some (.ref (1000 + i)), some (.int (nI k))] [] (wtW ni (nI (b)) (nI (enT tb tl (b))) (nI (tkT tb tl (b))) nv tb tl s we) := by
        intro fu
        induction fu with
        | zero => intro k hk hj hm; exact absurd hm (Nat.not_lt_zero _)
        | succ fu ih =>
          intro k hk hj hm
          refine v_iload_n (pc := 28) 3 g dX3_isWord_28 rfl rfl ?_
          refine v_aload_n (pc := 29) 2 g dX3_isWord_29 rfl rfl ?_
          refine v_cVs (pc := 30) g dX3_isWord_30 lk_X3_121 (c_strLen _ i hi) (Nat.le_of_ble_eq_true rfl) rfl rfl hi rfl (Nat.le_of_ble_eq_true rfl) ?_
          refine v_icmp_ge (pc := 33) 62 g dX3_isWord_33 rfl (fun c33 => ?_) (fun c33 => ?_)
          · have e33 : k = lnS i := ge_t (n := lnS i) rfl hk (by omega) c33
            refine v_iconst (pc := 62) (v := 1) g dX3_isWord_62 (by decide) ?_
            exact v_zret (pc := 63) g hret dX3_isWord_63 (by first | exact nb1 | exact nb0 | exact nbI) (⟨so1 (by unfold isW; rw [decide_eq_true ⟨e5, e21⟩, ← e33, hj]; rfl), rfl⟩)
          · have e33 : k < lnS i := ge_f (n := lnS i) rfl hk (by omega) c33
            refine v_aload_n (pc := 36) 1 g dX3_isWord_36 rfl rfl ?_
            refine v_aload_n (pc := 37) 0 g dX3_isWord_37 rfl rfl ?_
            refine v_get (pc := 38) g dX3_isWord_38 fl_X3_15 rfl rfl ?_
            refine v_iload_n (pc := 41) 3 g dX3_isWord_41 rfl rfl ?_
            refine v_iadd (pc := 42) g dX3_isWord_42 ?_
            rw [nI_add]
            refine v_cVd (pc := 43) g dX3_isWord_43 lk_X3_127 (tw_byteAt (b + k) hl (by omega)) (Nat.le_of_ble_eq_true rfl) rfl rfl rfl rfl (Nat.le_of_ble_eq_true rfl) ?_
            refine v_aload_n (pc := 46) 2 g dX3_isWord_46 rfl rfl ?_
            refine v_iload_n (pc := 47) 3 g dX3_isWord_47 rfl rfl ?_
            refine v_cVs (pc := 48) g dX3_isWord_48 lk_X3_133 (c_strAt _ i k hi e33) (Nat.le_of_ble_eq_true rfl) rfl rfl hi rfl (Nat.le_of_ble_eq_true rfl) ?_
            refine v_icmp_eq (pc := 51) 56 g dX3_isWord_51 rfl (fun c51 => ?_) (fun c51 => ?_)
            · have ej : eqW (fun k => byt tb tl (b + k)) (chS i) (k + 1) = true := by rw [eqW, hj, Bool.true_and]; exact decide_eq_true c51
              refine v_iincN (pc := 56) g dX3_isWord_56 rfl hnL.symm ?_
              refine v_goto (pc := 59) 28 g dX3_isWord_59 rfl ?_
              exact ih (k + 1) (by omega) ej (by omega)
            · have ej : eqW (fun k => byt tb tl (b + k)) (chS i) (k + 1) = false := by rw [eqW, hj, Bool.true_and]; exact decide_eq_false c51
              refine v_iconst (pc := 54) (v := 0) g dX3_isWord_54 (by decide) ?_
              exact v_zret (pc := 55) g hret dX3_isWord_55 (by first | exact nb1 | exact nb0 | exact nbI) (⟨so0 (by unfold isW; rw [eqW_no ej _ (by omega), Bool.and_false]; exact Bool.false_ne_true), rfl⟩)
      exact L28 (lnS i + 1) 0 (Nat.zero_le _) rfl (by omega)
    · have e5 : isW tb tl b i = false := by unfold isW; rw [decide_eq_false (fun z => c21 (by rw [z.2, show b + lnS i - b = lnS i by omega]))]; rfl
      refine v_iconst (pc := 24) (v := 0) g dX3_isWord_24 (by decide) ?_
      exact v_zret (pc := 25) g hret dX3_isWord_25 (by first | exact nb1 | exact nb0 | exact nbI) (⟨so0 (by rw [e5]; exact Bool.false_ne_true), rfl⟩)
