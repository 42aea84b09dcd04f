/-! ===== the reference: its calls, VIII: sheets and streets ===== -/
def lnt (sh le : Nat → Int64) (a k : Nat) : Nat → Int64 := fun j => if j < k then sh (a + j) else le j
theorem lnt_up (sh le : Nat → Int64) (a k : Nat) : vp_updL (lnt sh le a k) k (sh (a + k)) = lnt sh le a (k + 1) := by
  funext j
  unfold vp_updL lnt
  by_cases e : j = k
  · subst e
    rw [if_pos rfl, if_pos (by omega)]
  · rw [if_neg e]
    by_cases q : j < k
    · rw [if_pos q, if_pos (by omega)]
    · rw [if_neg q, if_neg (by omega)]
theorem cpy_up (sh le : Nat → Int64) (a b k n : Nat) (hk : k < n) : vp_updL (va_cpy sh sh a b k) (b + k) (lnt sh le a n k) = va_cpy sh sh a b (k + 1) := by
  funext j
  unfold vp_updL lnt va_cpy
  by_cases e : j = b + k
  · subst e
    rw [if_pos rfl, if_pos hk, if_pos (by omega), show b + k - b = k by omega]
  · rw [if_neg e]
    by_cases q : b ≤ j ∧ j < b + k
    · rw [if_pos q, if_pos (by omega)]
    · rw [if_neg q, if_neg (by omega)]
theorem cpy_0 (sh : Nat → Int64) (a b : Nat) : va_cpy sh sh a b 0 = sh := by
  funext j
  exact if_neg (by omega)
theorem lnt_0 (sh le : Nat → Int64) (a : Nat) : lnt sh le a 0 = le := by
  funext j
  exact if_neg (by omega)
theorem bdS_no {bi : Nat → Int32} {s : Int32} (h : ¬ bdS bi s = 0) : (isS s ∧ bi s.toNatClampNeg = 0 ∧ bdS bi s = -1000000006) ∨ (¬ isS s ∧ bdS bi s = -1000000001) := by
  unfold bdS at h ⊢
  by_cases a : isS s
  · rw [if_pos a] at h ⊢
    by_cases b : bi s.toNatClampNeg = 0
    · rw [if_pos b]; exact Or.inl ⟨a, b, rfl⟩
    · rw [if_neg b] at h; exact absurd rfl h
  · rw [if_neg a]; exact Or.inr ⟨a, rfl⟩
theorem bdS_ok {bi : Nat → Int32} {s : Int32} (h : bdS bi s = 0) : isS s ∧ ¬ bi s.toNatClampNeg = 0 := by
  unfold bdS at h
  by_cases a : isS s
  · rw [if_pos a] at h
    by_cases b : bi s.toNatClampNeg = 0
    · rw [if_pos b] at h; exact absurd h (by decide)
    · exact ⟨a, b⟩
  · rw [if_neg a] at h; exact absurd h (by decide)
theorem sN_layS (S : St) (nu : Nat → Int64) (z : Nat) : ∀ k, sN (layS S nu z k).1 = sN S
  | 0 => rfl
  | k + 1 => by
    rw [layS]
    split
    · exact sN_layS S nu z k
    · exact sN_layS S nu z k
set_option maxRecDepth 20000 in
set_option maxHeartbeats 2000000 in
theorem c_X5_copy (r : Nat → Int32) {fo : Nat → Int32} {of : Int32} {tr : Nat → Int32} {b1 : Nat → Int32} {ta : Nat → Int32} {tm : Nat} {so : Int32} {be : Int32} {te : Int32} {wo : Int64} {va : Int32} {gd : Int32} {bi : Nat → Int32} {si : Nat → Int32} {sh : Nat → Int64} {le : Nat → Int64} {im : Nat → Int32} {bf : Nat → Int32} {kp : Int32} (s f t o n : Int32) (hZ : ∀ k, inR (si k) 0 40) : Runs 2 yX5_copy cX5_copy 7 (some .int) [.ref 0, .int s, .int f, .int t, .int o, .int n] (mW r fo of tr b1 ta tm so be te wo va gd bi si sh le im bf kp) (fun r0 w0 => ∃ l1, r0 = some (.int (r_27 bi si s f t o n)) ∧ w0 = mW r (f_27 bi si fo s f t o n) of tr b1 ta tm so be te wo va gd bi si (q_27 bi si sh s f t o n) l1 im bf kp) := by
  refine Runs.of (by decide) (Nat.le_of_ble_eq_true rfl) rfl ?_
  intro X g hret hnL
  refine v_iload_n (pc := 0) 1 g dX5_copy_0 rfl rfl ?_
  refine v_cSd (pc := 1) g dX5_copy_1 lk_X5_263 ((c_X5_isSheet _).any rfl rfl _) (Nat.le_of_ble_eq_true rfl) rfl rfl (Nat.le_of_ble_eq_true rfl) ?_
  refine v_ifb_eq (pc := 4) 14 g dX5_copy_4 rfl (fun c4 => ?_) (fun c4 => ?_)
  · have hC : ¬ C27 s t := by first | exact fun z => c4 z.1 | exact fun z => c11 z.2
    refine v_aload_n (pc := 14) 0 g dX5_copy_14 rfl rfl ?_
    refine v_ldc (pc := 15) g dX5_copy_15 co_X5_44 ?_
    refine v_cVd (pc := 17) g dX5_copy_17 lk_X5_81 (c_X5_finds _ 0 (-1000000001) (by decide) (by decide)) (Nat.le_of_ble_eq_true rfl) rfl rfl rfl rfl (Nat.le_of_ble_eq_true rfl) ?_
    exact v_iret (pc := 20) g hret dX5_copy_20 (⟨_, so_i (by unfold r_27; rw [if_neg hC]), by unfold q_27 f_27; rw [if_neg hC, if_neg hC]⟩)
  · refine v_iload_n (pc := 7) 3 g dX5_copy_7 rfl rfl ?_
    refine v_cSd (pc := 8) g dX5_copy_8 lk_X5_263 ((c_X5_isSheet _).any rfl rfl _) (Nat.le_of_ble_eq_true rfl) rfl rfl (Nat.le_of_ble_eq_true rfl) ?_
    refine v_ifb_ne (pc := 11) 21 g dX5_copy_11 rfl (fun c11 => ?_) (fun c11 => ?_)
    · have hC : C27 s t := ⟨c4, c11⟩
      obtain ⟨z, hz, rfl⟩ := c4.nat (m := 3) (by omega)
      have ez : (nI z).toNatClampNeg = z := nI_clamp (by omega)
      obtain ⟨y, hy, rfl⟩ := c11.nat (m := 3) (by omega)
      have ey : (nI y).toNatClampNeg = y := nI_clamp (by omega)
      refine v_aload_n (pc := 21) 0 g dX5_copy_21 rfl rfl ?_
      refine v_get (pc := 22) g dX5_copy_22 fl_X5_25 rfl rfl ?_
      refine v_iload_n (pc := 25) 1 g dX5_copy_25 rfl rfl ?_
      refine v_ialdN (pc := 26) _ g dX5_copy_26 rfl rfl (by omega) (Nat.le_of_ble_eq_true rfl) ?_
      refine v_if_eq (pc := 27) 39 g dX5_copy_27 rfl (fun c27 => ?_) (fun c27 => ?_)
      · have hM : M27 bi z y := by first | exact Or.inl c27 | exact Or.inr c36
        refine v_aload_n (pc := 39) 0 g dX5_copy_39 rfl rfl ?_
        refine v_ldcw (pc := 40) g dX5_copy_40 co_X5_267 ?_
        refine v_cVd (pc := 43) g dX5_copy_43 lk_X5_81 (c_X5_finds _ 5 (-1000000006) (by decide) (by decide)) (Nat.le_of_ble_eq_true rfl) rfl rfl rfl rfl (Nat.le_of_ble_eq_true rfl) ?_
        exact v_iret (pc := 46) g hret dX5_copy_46 (⟨_, so_i (by unfold r_27; rw [if_pos hC, ez, ey]; unfold r27k; rw [if_pos hM]), by unfold q_27 f_27; rw [if_pos hC, if_pos hC, ez, ey]; unfold q27k f27k; rw [if_pos hM, if_pos hM]; try rfl⟩)
      · refine v_aload_n (pc := 30) 0 g dX5_copy_30 rfl rfl ?_
        refine v_get (pc := 31) g dX5_copy_31 fl_X5_25 rfl rfl ?_
        refine v_iload_n (pc := 34) 3 g dX5_copy_34 rfl rfl ?_
        refine v_ialdN (pc := 35) _ g dX5_copy_35 rfl rfl (by omega) (Nat.le_of_ble_eq_true rfl) ?_
        refine v_if_ne (pc := 36) 47 g dX5_copy_36 rfl (fun c36 => ?_) (fun c36 => ?_)
        · have hM : ¬ M27 bi z y := fun q => q.elim c27 c36
          refine v_aload_n (pc := 47) 0 g dX5_copy_47 rfl rfl ?_
          refine v_get (pc := 48) g dX5_copy_48 fl_X5_25 rfl rfl ?_
          refine v_iload_n (pc := 51) 1 g dX5_copy_51 rfl rfl ?_
          refine v_ialdN (pc := 52) _ g dX5_copy_52 rfl rfl (by omega) (Nat.le_of_ble_eq_true rfl) ?_
          refine v_aload_n (pc := 53) 0 g dX5_copy_53 rfl rfl ?_
          refine v_get (pc := 54) g dX5_copy_54 fl_X5_25 rfl rfl ?_
          refine v_iload_n (pc := 57) 3 g dX5_copy_57 rfl rfl ?_
          refine v_ialdN (pc := 58) _ g dX5_copy_58 rfl rfl (by omega) (Nat.le_of_ble_eq_true rfl) ?_
          refine v_icmp_eq (pc := 59) 69 g dX5_copy_59 rfl (fun c59 => ?_) (fun c59 => ?_)
          · refine v_aload_n (pc := 69) 0 g dX5_copy_69 rfl rfl ?_
            refine v_iload_n (pc := 70) 1 g dX5_copy_70 rfl rfl ?_
            refine v_iload_n (pc := 71) 2 g dX5_copy_71 rfl rfl ?_
            refine v_iload (pc := 72) g dX5_copy_72 rfl ?_
            refine v_cVd (pc := 74) g dX5_copy_74 lk_X5_272 (c_X5_isPart3 r z f n (by omega) (hZ z)) (Nat.le_of_ble_eq_true rfl) rfl rfl rfl rfl (Nat.le_of_ble_eq_true rfl) ?_
            refine v_ifb_eq (pc := 77) 92 g dX5_copy_77 rfl (fun c77 => ?_) (fun c77 => ?_)
            · have hH : ¬ H27 si z y f o n := by first | exact fun q => c77 q.1 | exact fun q => c89 q.2
              refine v_aload_n (pc := 92) 0 g dX5_copy_92 rfl rfl ?_
              refine v_ldc (pc := 93) g dX5_copy_93 co_X5_44 ?_
              refine v_cVd (pc := 95) g dX5_copy_95 lk_X5_81 (c_X5_finds _ 0 (-1000000001) (by decide) (by decide)) (Nat.le_of_ble_eq_true rfl) rfl rfl rfl rfl (Nat.le_of_ble_eq_true rfl) ?_
              exact v_iret (pc := 98) g hret dX5_copy_98 (⟨_, so_i (by unfold r_27; rw [if_pos hC, ez, ey]; unfold r27k; rw [if_neg hM, if_pos c59, if_neg hH]), by unfold q_27 f_27; rw [if_pos hC, if_pos hC, ez, ey]; unfold q27k f27k; rw [if_neg hM, if_pos c59, if_neg hH, if_neg hM, if_pos c59, if_neg hH]; try rfl⟩)
            · refine v_aload_n (pc := 80) 0 g dX5_copy_80 rfl rfl ?_
              refine v_iload_n (pc := 81) 3 g dX5_copy_81 rfl rfl ?_
              refine v_iload (pc := 82) g dX5_copy_82 rfl ?_
              refine v_iload (pc := 84) g dX5_copy_84 rfl ?_
              refine v_cVd (pc := 86) g dX5_copy_86 lk_X5_272 (c_X5_isPart3 r y o n (by omega) (hZ y)) (Nat.le_of_ble_eq_true rfl) rfl rfl rfl rfl (Nat.le_of_ble_eq_true rfl) ?_
              refine v_ifb_ne (pc := 89) 99 g dX5_copy_89 rfl (fun c89 => ?_) (fun c89 => ?_)
              · have hH : H27 si z y f o n := ⟨c77, c89⟩
                have hZz := (hZ z).2
                have hZy := (hZ y).2
                obtain ⟨a1, a2, a3, a4⟩ := c77
                obtain ⟨b1', b2, b3, b4⟩ := c89
                obtain ⟨f, hf, rfl⟩ := (show inR f 0 ((40 : Nat) : Int) from ⟨a1, by omega⟩).nat (by omega)
                obtain ⟨o, ho, rfl⟩ := (show inR o 0 ((40 : Nat) : Int) from ⟨b1', by omega⟩).nat (by omega)
                obtain ⟨n, hn, rfl⟩ := (show inR n 0 ((40 : Nat) : Int) from ⟨a2, by omega⟩).nat (by omega)
                rw [nI_toInt (by omega), nI_toInt (by omega)] at a4
                rw [nI_toInt (by omega), nI_toInt (by omega)] at b4
                refine v_iconst (pc := 99) (v := 0) g dX5_copy_99 (by decide) ?_
                refine v_istore (pc := 100) _ g dX5_copy_100 (Nat.le_of_ble_eq_true rfl) hnL.symm rfl ?_
                have L102 : ∀ (fu : Nat) (k : Nat), k ≤ n → n - k < fu → V X 102 [some (.ref 0), some (.int (nI z)), some (.int (nI f)), some (.int (nI y)), some (.int (nI o)), some (.int (nI n)), some (.int (nI k))] [] (mW r fo of tr b1 ta tm so be te wo va gd bi si sh (lnt sh le (40 * z + f) k) im bf kp) := by
                  intro fu
                  induction fu with
                  | zero => intro k hk hm; exact absurd hm (Nat.not_lt_zero _)
                  | succ fu ih =>
                    intro k hk hm
                    refine v_iload (pc := 102) g dX5_copy_102 rfl ?_
                    refine v_iload (pc := 104) g dX5_copy_104 rfl ?_
                    refine v_icmp_ge (pc := 106) 136 g dX5_copy_106 rfl (fun c106 => ?_) (fun c106 => ?_)
                    · have e106 : k = n := ge_t (n := n) rfl hk (by omega) c106
                      refine v_iconst (pc := 136) (v := 0) g dX5_copy_136 (by decide) ?_
                      refine v_istore (pc := 137) _ g dX5_copy_137 (Nat.le_of_ble_eq_true rfl) hnL.symm rfl ?_
                      have L139 : ∀ (fu : Nat) (k : Nat), k ≤ n → n - k < fu → V X 139 [some (.ref 0), some (.int (nI z)), some (.int (nI f)), some (.int (nI y)), some (.int (nI o)), some (.int (nI n)), some (.int (nI k))] [] (mW r fo of tr b1 ta tm so be te wo va gd bi si (va_cpy sh sh (40 * z + f) (40 * y + o) k) (lnt sh le (40 * z + f) n) im bf kp) := by
                        intro fu
                        induction fu with
                        | zero => intro k hk hm; exact absurd hm (Nat.not_lt_zero _)
                        | succ fu ih2 =>
                          intro k hk hm
                          refine v_iload (pc := 139) g dX5_copy_139 rfl ?_
                          refine v_iload (pc := 141) g dX5_copy_141 rfl ?_
                          refine v_icmp_ge (pc := 143) 174 g dX5_copy_143 rfl (fun c143 => ?_) (fun c143 => ?_)
                          · have e143 : k = n := ge_t (n := n) rfl hk (by omega) c143
                            refine v_iload (pc := 174) g dX5_copy_174 rfl ?_
                            exact v_iret (pc := 176) g hret dX5_copy_176 (⟨_, so_i (by unfold r_27; rw [if_pos hC, ez, ey]; unfold r27k; rw [if_neg hM, if_pos c59, if_pos hH]), by unfold q_27 f_27; rw [if_pos hC, if_pos hC, ez, ey]; unfold q27k f27k; rw [if_neg hM, if_pos c59, if_pos hH, if_neg hM, if_pos c59, if_pos hH]; rw [nI_clamp (by omega), nI_clamp (by omega), nI_clamp (by omega), e143]⟩)
                          · have e143 : k < n := ge_f (n := n) rfl hk (by omega) c143
                            refine v_aload_n (pc := 146) 0 g dX5_copy_146 rfl rfl ?_
                            refine v_get (pc := 147) g dX5_copy_147 fl_X5_31 rfl rfl ?_
                            refine v_bipush (pc := 150) (v := 40) g dX5_copy_150 (by decide) ?_
                            refine v_iload_n (pc := 152) 3 g dX5_copy_152 rfl rfl ?_
                            refine v_imul (pc := 153) g dX5_copy_153 ?_
                            refine v_iload (pc := 154) g dX5_copy_154 rfl ?_
                            refine v_iadd (pc := 156) g dX5_copy_156 ?_
                            refine v_iload (pc := 157) g dX5_copy_157 rfl ?_
                            refine v_iadd (pc := 159) g dX5_copy_159 ?_
                            refine v_aload_n (pc := 160) 0 g dX5_copy_160 rfl rfl ?_
                            refine v_get (pc := 161) g dX5_copy_161 fl_X5_35 rfl rfl ?_
                            refine v_iload (pc := 164) g dX5_copy_164 rfl ?_
                            refine v_laldN (pc := 166) _ g dX5_copy_166 rfl rfl (by omega) (Nat.le_of_ble_eq_true rfl) ?_
                            refine v_lastN (pc := 167) _ _ g dX5_copy_167 rfl (by rw [ix_s2, nI_add]) (by omega) (Nat.le_of_ble_eq_true rfl) rfl ?_
                            refine v_iincN (pc := 168) g dX5_copy_168 rfl hnL.symm ?_
                            refine v_goto (pc := 171) 139 g dX5_copy_171 rfl ?_
                            refine v_w (mW r fo of tr b1 ta tm so be te wo va gd bi si (va_cpy sh sh (40 * z + f) (40 * y + o) (k + 1)) (lnt sh le (40 * z + f) n) im bf kp) (by rw [← cpy_up sh le (40 * z + f) (40 * y + o) k n (by omega)]; rfl) ?_
                            exact ih2 (k + 1) (by omega) (by omega)
                      refine v_w (mW r fo of tr b1 ta tm so be te wo va gd bi si (va_cpy sh sh (40 * z + f) (40 * y + o) 0) (lnt sh le (40 * z + f) n) im bf kp) (by rw [cpy_0, e106]) ?_
                      exact L139 (n + 1) 0 (Nat.zero_le _) (by omega)
                    · have e106 : k < n := ge_f (n := n) rfl hk (by omega) c106
                      refine v_aload_n (pc := 109) 0 g dX5_copy_109 rfl rfl ?_
                      refine v_get (pc := 110) g dX5_copy_110 fl_X5_35 rfl rfl ?_
                      refine v_iload (pc := 113) g dX5_copy_113 rfl ?_
                      refine v_aload_n (pc := 115) 0 g dX5_copy_115 rfl rfl ?_
                      refine v_get (pc := 116) g dX5_copy_116 fl_X5_31 rfl rfl ?_
                      refine v_bipush (pc := 119) (v := 40) g dX5_copy_119 (by decide) ?_
                      refine v_iload_n (pc := 121) 1 g dX5_copy_121 rfl rfl ?_
                      refine v_imul (pc := 122) g dX5_copy_122 ?_
                      refine v_iload_n (pc := 123) 2 g dX5_copy_123 rfl rfl ?_
                      refine v_iadd (pc := 124) g dX5_copy_124 ?_
                      refine v_iload (pc := 125) g dX5_copy_125 rfl ?_
                      refine v_iadd (pc := 127) g dX5_copy_127 ?_
                      refine v_laldN (pc := 128) _ g dX5_copy_128 rfl (by rw [ix_s2, nI_add]) (by omega) (Nat.le_of_ble_eq_true rfl) ?_
                      refine v_lastN (pc := 129) _ _ g dX5_copy_129 rfl rfl (by omega) (Nat.le_of_ble_eq_true rfl) rfl ?_
                      refine v_iincN (pc := 130) g dX5_copy_130 rfl hnL.symm ?_
                      refine v_goto (pc := 133) 102 g dX5_copy_133 rfl ?_
                      refine v_w (mW r fo of tr b1 ta tm so be te wo va gd bi si sh (lnt sh le (40 * z + f) (k + 1)) im bf kp) (by rw [← lnt_up]; rfl) ?_
                      exact ih (k + 1) (by omega) (by omega)
                refine v_w (mW r fo of tr b1 ta tm so be te wo va gd bi si sh (lnt sh le (40 * z + f) 0) im bf kp) (by rw [lnt_0]) ?_
                exact L102 (n + 1) 0 (Nat.zero_le _) (by omega)
              · have hH : ¬ H27 si z y f o n := by first | exact fun q => c77 q.1 | exact fun q => c89 q.2
                refine v_aload_n (pc := 92) 0 g dX5_copy_92 rfl rfl ?_
                refine v_ldc (pc := 93) g dX5_copy_93 co_X5_44 ?_
                refine v_cVd (pc := 95) g dX5_copy_95 lk_X5_81 (c_X5_finds _ 0 (-1000000001) (by decide) (by decide)) (Nat.le_of_ble_eq_true rfl) rfl rfl rfl rfl (Nat.le_of_ble_eq_true rfl) ?_
                exact v_iret (pc := 98) g hret dX5_copy_98 (⟨_, so_i (by unfold r_27; rw [if_pos hC, ez, ey]; unfold r27k; rw [if_neg hM, if_pos c59, if_neg hH]), by unfold q_27 f_27; rw [if_pos hC, if_pos hC, ez, ey]; unfold q27k f27k; rw [if_neg hM, if_pos c59, if_neg hH, if_neg hM, if_pos c59, if_neg hH]; try rfl⟩)
          · refine v_aload_n (pc := 62) 0 g dX5_copy_62 rfl rfl ?_
            refine v_ldc (pc := 63) g dX5_copy_63 co_X5_127 ?_
            refine v_cVd (pc := 65) g dX5_copy_65 lk_X5_81 (c_X5_finds _ 2 (-1000000003) (by decide) (by decide)) (Nat.le_of_ble_eq_true rfl) rfl rfl rfl rfl (Nat.le_of_ble_eq_true rfl) ?_
            exact v_iret (pc := 68) g hret dX5_copy_68 (⟨_, so_i (by unfold r_27; rw [if_pos hC, ez, ey]; unfold r27k; rw [if_neg hM, if_neg c59]), by unfold q_27 f_27; rw [if_pos hC, if_pos hC, ez, ey]; unfold q27k f27k; rw [if_neg hM, if_neg c59, if_neg hM, if_neg c59]; try rfl⟩)
        · have hM : M27 bi z y := by first | exact Or.inl c27 | exact Or.inr c36
          refine v_aload_n (pc := 39) 0 g dX5_copy_39 rfl rfl ?_
          refine v_ldcw (pc := 40) g dX5_copy_40 co_X5_267 ?_
          refine v_cVd (pc := 43) g dX5_copy_43 lk_X5_81 (c_X5_finds _ 5 (-1000000006) (by decide) (by decide)) (Nat.le_of_ble_eq_true rfl) rfl rfl rfl rfl (Nat.le_of_ble_eq_true rfl) ?_
          exact v_iret (pc := 46) g hret dX5_copy_46 (⟨_, so_i (by unfold r_27; rw [if_pos hC, ez, ey]; unfold r27k; rw [if_pos hM]), by unfold q_27 f_27; rw [if_pos hC, if_pos hC, ez, ey]; unfold q27k f27k; rw [if_pos hM, if_pos hM]; try rfl⟩)
    · have hC : ¬ C27 s t := by first | exact fun z => c4 z.1 | exact fun z => c11 z.2
      refine v_aload_n (pc := 14) 0 g dX5_copy_14 rfl rfl ?_
      refine v_ldc (pc := 15) g dX5_copy_15 co_X5_44 ?_
      refine v_cVd (pc := 17) g dX5_copy_17 lk_X5_81 (c_X5_finds _ 0 (-1000000001) (by decide) (by decide)) (Nat.le_of_ble_eq_true rfl) rfl rfl rfl rfl (Nat.le_of_ble_eq_true rfl) ?_
      exact v_iret (pc := 20) g hret dX5_copy_20 (⟨_, so_i (by unfold r_27; rw [if_neg hC]), by unfold q_27 f_27; rw [if_neg hC, if_neg hC]⟩)
set_option maxRecDepth 20000 in
set_option maxHeartbeats 2000000 in
theorem c_X5_lays (S : St) {fo : Nat → Int32} {of : Int32} {tr : Nat → Int32} {b1 : Nat → Int32} {ta : Nat → Int32} {tm : Nat} {so : Int32} {be : Int32} {te : Int32} {wo : Int64} {va : Int32} {gd : Int32} {bi : Nat → Int32} {si : Nat → Int32} {sh : Nat → Int64} {le : Nat → Int64} {im : Nat → Int32} {bf : Nat → Int32} {kp : Int32} (s : Int32) (hI : Inv S) (hZ : ∀ k, inR (si k) 0 40) : RunD 3 yX5_lays cX5_lays 7 (some .int) [.ref 0, .int s] (mW (rowOf S) fo of tr b1 ta tm so be te wo va gd bi si sh le im bf kp) (some (.int (r_28 S bi si sh s))) (mW (rowOf (s_28 S bi si sh s)) (f_28 bi fo s) of tr b1 ta tm so be te wo va gd bi si sh le im bf kp) := by
  refine Runs.of (by decide) (Nat.le_of_ble_eq_true rfl) rfl ?_
  intro X g hret hnL
  refine v_aload_n (pc := 0) 0 g dX5_lays_0 rfl rfl ?_
  refine v_iload_n (pc := 1) 1 g dX5_lays_1 rfl rfl ?_
  refine v_cVd (pc := 2) g dX5_lays_2 lk_X5_274 (c_X5_badSheet _ _) (Nat.le_of_ble_eq_true rfl) rfl rfl rfl rfl (Nat.le_of_ble_eq_true rfl) ?_
  refine v_istore_n (pc := 5) 2 _ g dX5_lays_5 rfl (Nat.le_of_ble_eq_true rfl) hnL.symm rfl ?_
  refine v_iload_n (pc := 6) 2 g dX5_lays_6 rfl rfl ?_
  refine v_if_eq (pc := 7) 16 g dX5_lays_7 rfl (fun c7 => ?_) (fun c7 => ?_)
  · obtain ⟨hS, hM⟩ := bdS_ok c7
    obtain ⟨z, hz, rfl⟩ := (show inR s 0 3 from hS).nat (m := 3) (by omega)
    have ez : (nI z).toNatClampNeg = z := nI_clamp (by omega)
    rw [ez] at hM
    obtain ⟨es, hs40⟩ := szN_e (hZ z)
    refine v_iconst (pc := 16) (v := 0) g dX5_lays_16 (by decide) ?_
    refine v_istore_n (pc := 17) 3 _ g dX5_lays_17 rfl (Nat.le_of_ble_eq_true rfl) hnL.symm rfl ?_
    have hmn : mnN (szN si z) (sN S) ≤ szN si z ∧ mnN (szN si z) (sN S) ≤ sN S ∧ (mnN (szN si z) (sN S) = szN si z ∨ mnN (szN si z) (sN S) = sN S) := by unfold mnN; split <;> omega
    have hI8 := hI.n
    refine v_iconst (pc := 18) (v := 0) g dX5_lays_18 (by decide) ?_
    refine v_istore (pc := 19) _ g dX5_lays_19 (Nat.le_of_ble_eq_true rfl) hnL.symm rfl ?_
    refine v_fg [true, true, false, true, true, false, false] ?_
    have L21 : ∀ (fu : Nat) (k : Nat), k ≤ mnN (szN si z) (sN S) → mnN (szN si z) (sN S) - k < fu → V X 21 [some (.ref 0), some (.int (nI z)), none, some (.int (layS S sh z k).2), some (.int (nI k)), none, none] [] (mW (rowOf (layS S sh z k).1) fo of tr b1 ta tm so be te wo va gd bi si sh le im bf kp) := by
      intro fu
      induction fu with
      | zero => intro k hk hm; exact absurd hm (Nat.not_lt_zero _)
      | succ fu ih =>
        intro k hk hm
        refine v_iload (pc := 21) g dX5_lays_21 rfl ?_
        refine v_aload_n (pc := 23) 0 g dX5_lays_23 rfl rfl ?_
        refine v_get (pc := 24) g dX5_lays_24 fl_X5_28 rfl rfl ?_
        refine v_iload_n (pc := 27) 1 g dX5_lays_27 rfl rfl ?_
        refine v_ialdN (pc := 28) _ g dX5_lays_28 rfl rfl (by omega) (Nat.le_of_ble_eq_true rfl) ?_
        rw [es]
        refine v_icmp_ge (pc := 29) 92 g dX5_lays_29 rfl (fun c29 => ?_) (fun c29 => ?_)
        · have e29 : k = mnN (szN si z) (sN S) := by have := (nI_leI (a := szN si z) (b := k) (by omega) (by omega)).mp c29; omega
          subst e29
          refine v_iload_n (pc := 92) 3 g dX5_lays_92 rfl rfl ?_
          exact v_iret (pc := 93) g hret dX5_lays_93 (⟨so_i (by unfold r_28 r28k; rw [if_pos hS, ez, if_neg hM]), by unfold s_28 s28k f_28 f28k; rw [if_pos hS, if_pos hS, ez, if_neg hM, if_neg hM]⟩)
        · have e29 : k < szN si z := Nat.not_le.mp (fun q => c29 ((nI_leI (a := szN si z) (b := k) (by omega) (by omega)).mpr q))
          refine v_iload (pc := 32) g dX5_lays_32 rfl ?_
          refine v_aload_n (pc := 34) 0 g dX5_lays_34 rfl rfl ?_
          refine v_get (pc := 35) g dX5_lays_35 fl_X5_7 rfl rfl ?_
          refine v_iconst (pc := 38) (v := 2) g dX5_lays_38 (by decide) ?_
          refine v_ialdN (pc := 39) _ g dX5_lays_39 rfl rfl (Nat.le_of_ble_eq_true rfl) (Nat.le_of_ble_eq_true rfl) ?_
          rw [row_N, sN_layS]
          refine v_icmp_ge (pc := 40) 92 g dX5_lays_40 rfl (fun c40 => ?_) (fun c40 => ?_)
          · have e40 : k = mnN (szN si z) (sN S) := by have := (nI_leI (a := sN S) (b := k) (by omega) (by omega)).mp c40; omega
            subst e40
            refine v_iload_n (pc := 92) 3 g dX5_lays_92 rfl rfl ?_
            exact v_iret (pc := 93) g hret dX5_lays_93 (⟨so_i (by unfold r_28 r28k; rw [if_pos hS, ez, if_neg hM]), by unfold s_28 s28k f_28 f28k; rw [if_pos hS, if_pos hS, ez, if_neg hM, if_neg hM]⟩)
          · have e40 : k < sN S := Nat.not_le.mp (fun q => c40 ((nI_leI (a := sN S) (b := k) (by omega) (by omega)).mpr q))
            refine v_aload_n (pc := 43) 0 g dX5_lays_43 rfl rfl ?_
            refine v_get (pc := 44) g dX5_lays_44 fl_X5_31 rfl rfl ?_
            refine v_bipush (pc := 47) (v := 40) g dX5_lays_47 (by decide) ?_
            refine v_iload_n (pc := 49) 1 g dX5_lays_49 rfl rfl ?_
            refine v_imul (pc := 50) g dX5_lays_50 ?_
            refine v_iload (pc := 51) g dX5_lays_51 rfl ?_
            refine v_iadd (pc := 53) g dX5_lays_53 ?_
            refine v_laldN (pc := 54) _ g dX5_lays_54 rfl (ix_s2 z k) (by omega) (Nat.le_of_ble_eq_true rfl) ?_
            refine v_lstore (pc := 55) _ g dX5_lays_55 (Nat.le_of_ble_eq_true rfl) hnL.symm rfl ?_
            refine v_lload (pc := 57) g dX5_lays_57 rfl ?_
            refine v_lconst (pc := 59) (v := 0) g dX5_lays_59 (by decide) ?_
            refine v_lcmp (pc := 60) g dX5_lays_60 ?_
            refine v_if_lt (pc := 61) 86 g dX5_lays_61 rfl (fun c61 => ?_) (fun c61 => ?_)
            · have eb : layS S sh z (k + 1) = layS S sh z k := if_neg (fun q => absurd q.1 (Int64.not_le.mpr (lg_lt.mp c61)))
              refine v_iincN (pc := 86) g dX5_lays_86 rfl hnL.symm ?_
              refine v_goto (pc := 89) 21 g dX5_lays_89 rfl ?_
              refine v_fg [true, true, false, true, true, false, false] ?_
              refine v_loE [some (.ref 0), some (.int (nI z)), none, some (.int (layS S sh z (k + 1)).2), some (.int (nI (k + 1))), none, none] (by rw [eb]; rfl) ?_
              refine v_w (mW (rowOf (layS S sh z (k + 1)).1) fo of tr b1 ta tm so be te wo va gd bi si sh le im bf kp) (by rw [eb]; try rfl) ?_
              exact ih (k + 1) (by omega) (by omega)
            · refine v_lload (pc := 64) g dX5_lays_64 rfl ?_
              refine v_ldc2 (pc := 66) g dX5_lays_66 co_X5_277 ?_
              refine v_lcmp (pc := 69) g dX5_lays_69 ?_
              refine v_if_gt (pc := 70) 86 g dX5_lays_70 rfl (fun c70 => ?_) (fun c70 => ?_)
              · have eb : layS S sh z (k + 1) = layS S sh z k := if_neg (fun q => absurd q.2 (Int64.not_le.mpr (lg_gt.mp c70)))
                refine v_iincN (pc := 86) g dX5_lays_86 rfl hnL.symm ?_
                refine v_goto (pc := 89) 21 g dX5_lays_89 rfl ?_
                refine v_fg [true, true, false, true, true, false, false] ?_
                refine v_loE [some (.ref 0), some (.int (nI z)), none, some (.int (layS S sh z (k + 1)).2), some (.int (nI (k + 1))), none, none] (by rw [eb]; rfl) ?_
                refine v_w (mW (rowOf (layS S sh z (k + 1)).1) fo of tr b1 ta tm so be te wo va gd bi si sh le im bf kp) (by rw [eb]; try rfl) ?_
                exact ih (k + 1) (by omega) (by omega)
              · have eb : layS S sh z (k + 1) = (pCo (layS S sh z k).1 (upd (sCo (layS S sh z k).1) k (sh (40 * z + k)).toInt32), (layS S sh z k).2 + 1) := if_pos ⟨Int64.not_lt.mp (fun q => c61 (lg_lt.mpr q)), Int64.not_lt.mp (fun q => c70 (lg_gt.mpr q))⟩
                refine v_aload_n (pc := 73) 0 g dX5_lays_73 rfl rfl ?_
                refine v_iload (pc := 74) g dX5_lays_74 rfl ?_
                refine v_iconst (pc := 76) (v := 3) g dX5_lays_76 (by decide) ?_
                refine v_lload (pc := 77) g dX5_lays_77 rfl ?_
                refine v_l2i (pc := 79) g dX5_lays_79 ?_
                refine v_cVd (pc := 80) g dX5_lays_80 lk_X5_99 (c_pu_Co (layS S sh z k).1 k _ (by omega)) (Nat.le_of_ble_eq_true rfl) rfl rfl rfl rfl (Nat.le_of_ble_eq_true rfl) ?_
                refine v_iinc (pc := 83) _ _ g dX5_lays_83 rfl rfl hnL.symm rfl ?_
                refine v_iincN (pc := 86) g dX5_lays_86 rfl hnL.symm ?_
                refine v_goto (pc := 89) 21 g dX5_lays_89 rfl ?_
                refine v_fg [true, true, false, true, true, false, false] ?_
                refine v_loE [some (.ref 0), some (.int (nI z)), none, some (.int (layS S sh z (k + 1)).2), some (.int (nI (k + 1))), none, none] (by rw [eb]; rfl) ?_
                refine v_w (mW (rowOf (layS S sh z (k + 1)).1) fo of tr b1 ta tm so be te wo va gd bi si sh le im bf kp) (by rw [eb]; try rfl) ?_
                exact ih (k + 1) (by omega) (by omega)
    exact L21 (mnN (szN si z) (sN S) + 1) 0 (Nat.zero_le _) (by omega)
  · rcases bdS_no c7 with ⟨hS, hM, e7⟩ | ⟨hS, e7⟩
    · rw [e7]
      refine v_aload_n (pc := 10) 0 g dX5_lays_10 rfl rfl ?_
      refine v_iload_n (pc := 11) 2 g dX5_lays_11 rfl rfl ?_
      refine v_cVd (pc := 12) g dX5_lays_12 lk_X5_81 (c_X5_finds _ 5 (-1000000006) (by decide) (by decide)) (Nat.le_of_ble_eq_true rfl) rfl rfl rfl rfl (Nat.le_of_ble_eq_true rfl) ?_
      exact v_iret (pc := 15) g hret dX5_lays_15 (⟨so_i (by unfold r_28 r28k; rw [if_pos hS, if_pos hM]), by unfold s_28 s28k f_28 f28k; rw [if_pos hS, if_pos hS, if_pos hM, if_pos hM]⟩)
    · rw [e7]
      refine v_aload_n (pc := 10) 0 g dX5_lays_10 rfl rfl ?_
      refine v_iload_n (pc := 11) 2 g dX5_lays_11 rfl rfl ?_
      refine v_cVd (pc := 12) g dX5_lays_12 lk_X5_81 (c_X5_finds _ 0 (-1000000001) (by decide) (by decide)) (Nat.le_of_ble_eq_true rfl) rfl rfl rfl rfl (Nat.le_of_ble_eq_true rfl) ?_
      exact v_iret (pc := 15) g hret dX5_lays_15 (⟨so_i (by unfold r_28; rw [if_neg hS]), by unfold s_28 f_28; rw [if_neg hS, if_neg hS]⟩)
set_option maxRecDepth 20000 in
set_option maxHeartbeats 2000000 in
theorem c_X5_book (S : St) {fo : Nat → Int32} {of : Int32} {tr : Nat → Int32} {b1 : Nat → Int32} {ta : Nat → Int32} {tm : Nat} {so : Int32} {be : Int32} {te : Int32} {wo : Int64} {va : Int32} {gd : Int32} {bi : Nat → Int32} {si : Nat → Int32} {sh : Nat → Int64} {le : Nat → Int64} {im : Nat → Int32} {bf : Nat → Int32} {kp : Int32} (s p : Int32) (hI : Inv S) (hZ : ∀ k, inR (si k) 0 40) : Runs 6 yX5_book cX5_book 5 (some .int) [.ref 0, .int s, .int p] (mW (rowOf S) fo of tr b1 ta tm so be te wo va gd bi si sh le im bf kp) (fun r0 w0 => ∃ o1 t1, r0 = some (.int (r_29 S bi si s p)) ∧ w0 = mW (rowOf S) (f_29 S bi fo s p) o1 t1 b1 ta tm so be te wo va gd bi si (q_29 S bi si sh s p) le im bf kp) := by
  refine Runs.of (by decide) (Nat.le_of_ble_eq_true rfl) rfl ?_
  intro X g hret hnL
  refine v_aload_n (pc := 0) 0 g dX5_book_0 rfl rfl ?_
  refine v_iload_n (pc := 1) 1 g dX5_book_1 rfl rfl ?_
  refine v_cVd (pc := 2) g dX5_book_2 lk_X5_274 (c_X5_badSheet _ _) (Nat.le_of_ble_eq_true rfl) rfl rfl rfl rfl (Nat.le_of_ble_eq_true rfl) ?_
  refine v_istore_n (pc := 5) 3 _ g dX5_book_5 rfl (Nat.le_of_ble_eq_true rfl) hnL.symm rfl ?_
  refine v_iload_n (pc := 6) 3 g dX5_book_6 rfl rfl ?_
  refine v_if_eq (pc := 7) 16 g dX5_book_7 rfl (fun c7 => ?_) (fun c7 => ?_)
  · obtain ⟨hS, hM⟩ := bdS_ok c7
    obtain ⟨z, hz, rfl⟩ := (show inR s 0 3 from hS).nat (m := 3) (by omega)
    have ez : (nI z).toNatClampNeg = z := nI_clamp (by omega)
    rw [ez] at hM
    obtain ⟨es, hs40⟩ := szN_e (hZ z)
    refine v_aload_n (pc := 16) 0 g dX5_book_16 rfl rfl ?_
    refine v_iload_n (pc := 17) 2 g dX5_book_17 rfl rfl ?_
    refine v_cVd (pc := 18) g dX5_book_18 lk_X5_111 (c_X5_isOne S _ hI.n) (Nat.le_of_ble_eq_true rfl) rfl rfl rfl rfl (Nat.le_of_ble_eq_true rfl) ?_
    refine v_ifb_ne (pc := 21) 31 g dX5_book_21 rfl (fun c21 => ?_) (fun c21 => ?_)
    · have hC : isP S p := c21
      obtain ⟨i, hi, rfl⟩ := hC.nat hI.n
      have ei : (nI i).toNatClampNeg = i := nI_clamp (by have := hI.n; omega)
      refine v_aload_n (pc := 31) 0 g dX5_book_31 rfl rfl ?_
      refine v_iconst (pc := 32) (v := 1) g dX5_book_32 (by decide) ?_
      refine v_aload_n (pc := 33) 0 g dX5_book_33 rfl rfl ?_
      refine v_get (pc := 34) g dX5_book_34 fl_X5_16 rfl rfl ?_
      refine v_cVd (pc := 37) g dX5_book_37 lk_X5_156 (c_mvK_tr (rowOf S)) (Nat.le_of_ble_eq_true rfl) rfl rfl rfl rfl (Nat.le_of_ble_eq_true rfl) ?_
      refine v_iconst (pc := 40) (v := 0) g dX5_book_40 (by decide) ?_
      refine v_istore (pc := 41) _ g dX5_book_41 (Nat.le_of_ble_eq_true rfl) hnL.symm rfl ?_
      refine v_fg [true, true, true, false, true] ?_
      have L43 : ∀ (fu : Nat) (k : Nat), k ≤ szN si z → szN si z - k < fu → V X 43 [some (.ref 0), some (.int (nI z)), some (.int (nI i)), none, some (.int (nI k))] [] (mW (rowOf (minN S k)) fo (weN S of k) (rowOf S) b1 ta tm so be te wo va gd bi si (bkN S sh z i k) le im bf kp) := by
        intro fu
        induction fu with
        | zero => intro k hk hm; exact absurd hm (Nat.not_lt_zero _)
        | succ fu ih =>
          intro k hk hm
          refine v_iload (pc := 43) g dX5_book_43 rfl ?_
          refine v_aload_n (pc := 45) 0 g dX5_book_45 rfl rfl ?_
          refine v_get (pc := 46) g dX5_book_46 fl_X5_28 rfl rfl ?_
          refine v_iload_n (pc := 49) 1 g dX5_book_49 rfl rfl ?_
          refine v_ialdN (pc := 50) _ g dX5_book_50 rfl rfl (by omega) (Nat.le_of_ble_eq_true rfl) ?_
          rw [es]
          refine v_icmp_ge (pc := 51) 83 g dX5_book_51 rfl (fun c51 => ?_) (fun c51 => ?_)
          · have e51 : k = szN si z := ge_t (n := szN si z) rfl hk (by omega) c51
            subst e51
            refine v_aload_n (pc := 83) 0 g dX5_book_83 rfl rfl ?_
            refine v_iconst (pc := 84) (v := 0) g dX5_book_84 (by decide) ?_
            refine v_aload_n (pc := 85) 0 g dX5_book_85 rfl rfl ?_
            refine v_get (pc := 86) g dX5_book_86 fl_X5_16 rfl rfl ?_
            refine v_cVd (pc := 89) g dX5_book_89 lk_X5_156 (c_mvB_tr _) (Nat.le_of_ble_eq_true rfl) rfl rfl rfl rfl (Nat.le_of_ble_eq_true rfl) ?_
            refine v_aload_n (pc := 92) 0 g dX5_book_92 rfl rfl ?_
            refine v_get (pc := 93) g dX5_book_93 fl_X5_28 rfl rfl ?_
            refine v_iload_n (pc := 96) 1 g dX5_book_96 rfl rfl ?_
            refine v_ialdN (pc := 97) _ g dX5_book_97 rfl rfl (by omega) (Nat.le_of_ble_eq_true rfl) ?_
            exact v_iret (pc := 98) g hret dX5_book_98 (⟨_, _, so_i (by unfold r_29 r29k; rw [if_pos hS, ez, if_neg hM, if_pos hC]), by unfold q_29 q29k f_29 f29k; rw [if_pos hS, if_pos hS, ez, if_neg hM, if_pos hC, if_neg hM, if_pos hC, ei]⟩)
          · have e51 : k < szN si z := ge_f (n := szN si z) rfl hk (by omega) c51
            refine v_aload_n (pc := 54) 0 g dX5_book_54 rfl rfl ?_
            refine v_get (pc := 55) g dX5_book_55 fl_X5_31 rfl rfl ?_
            refine v_bipush (pc := 58) (v := 40) g dX5_book_58 (by decide) ?_
            refine v_iload_n (pc := 60) 1 g dX5_book_60 rfl rfl ?_
            refine v_imul (pc := 61) g dX5_book_61 ?_
            refine v_iload (pc := 62) g dX5_book_62 rfl ?_
            refine v_iadd (pc := 64) g dX5_book_64 ?_
            refine v_aload_n (pc := 65) 0 g dX5_book_65 rfl rfl ?_
            refine v_iload_n (pc := 66) 2 g dX5_book_66 rfl rfl ?_
            refine v_iconst (pc := 67) (v := 4) g dX5_book_67 (by decide) ?_
            refine v_cVd (pc := 68) g dX5_book_68 lk_X5_53 (c_it_Ti (minN S k) i (by have := hI.n; omega)) (Nat.le_of_ble_eq_true rfl) rfl rfl rfl rfl (Nat.le_of_ble_eq_true rfl) ?_
            refine v_i2l (pc := 71) g dX5_book_71 ?_
            refine v_lastN (pc := 72) _ _ g dX5_book_72 rfl (ix_s2 z k) (by omega) (Nat.le_of_ble_eq_true rfl) rfl ?_
            refine v_aload_n (pc := 73) 0 g dX5_book_73 rfl rfl ?_
            refine v_cVd (pc := 74) g dX5_book_74 lk_X5_148 (c_X5_oneMinute (minN S k) (hI.minN k)) (Nat.le_of_ble_eq_true rfl) rfl rfl rfl rfl (Nat.le_of_ble_eq_true rfl) ?_
            refine v_iincN (pc := 77) g dX5_book_77 rfl hnL.symm ?_
            refine v_goto (pc := 80) 43 g dX5_book_80 rfl ?_
            refine v_fg [true, true, true, false, true] ?_
            exact ih (k + 1) (by omega) (by omega)
      exact L43 (szN si z + 1) 0 (Nat.zero_le _) (by omega)
    · refine v_aload_n (pc := 24) 0 g dX5_book_24 rfl rfl ?_
      refine v_ldc (pc := 25) g dX5_book_25 co_X5_44 ?_
      refine v_cVd (pc := 27) g dX5_book_27 lk_X5_81 (c_X5_finds _ 0 (-1000000001) (by decide) (by decide)) (Nat.le_of_ble_eq_true rfl) rfl rfl rfl rfl (Nat.le_of_ble_eq_true rfl) ?_
      exact v_iret (pc := 30) g hret dX5_book_30 (⟨_, _, so_i (by unfold r_29 r29k; rw [if_pos hS, ez, if_neg hM, if_neg c21]), by unfold q_29 q29k f_29 f29k; rw [if_pos hS, if_pos hS, ez, if_neg hM, if_neg c21, if_neg hM, if_neg c21]⟩)
  · rcases bdS_no c7 with ⟨hS, hM, e7⟩ | ⟨hS, e7⟩
    · rw [e7]
      refine v_aload_n (pc := 10) 0 g dX5_book_10 rfl rfl ?_
      refine v_iload_n (pc := 11) 3 g dX5_book_11 rfl rfl ?_
      refine v_cVd (pc := 12) g dX5_book_12 lk_X5_81 (c_X5_finds _ 5 (-1000000006) (by decide) (by decide)) (Nat.le_of_ble_eq_true rfl) rfl rfl rfl rfl (Nat.le_of_ble_eq_true rfl) ?_
      exact v_iret (pc := 15) g hret dX5_book_15 (⟨_, _, so_i (by unfold r_29 r29k; rw [if_pos hS, if_pos hM]), by unfold q_29 q29k f_29 f29k; rw [if_pos hS, if_pos hS, if_pos hM, if_pos hM]⟩)
    · rw [e7]
      refine v_aload_n (pc := 10) 0 g dX5_book_10 rfl rfl ?_
      refine v_iload_n (pc := 11) 3 g dX5_book_11 rfl rfl ?_
      refine v_cVd (pc := 12) g dX5_book_12 lk_X5_81 (c_X5_finds _ 0 (-1000000001) (by decide) (by decide)) (Nat.le_of_ble_eq_true rfl) rfl rfl rfl rfl (Nat.le_of_ble_eq_true rfl) ?_
      exact v_iret (pc := 15) g hret dX5_book_15 (⟨_, _, so_i (by unfold r_29; rw [if_neg hS]), by unfold q_29 f_29; rw [if_neg hS, if_neg hS]⟩)
set_option maxRecDepth 20000 in
set_option maxHeartbeats 2000000 in
theorem c_X5_isSo (s : St) {fo : Nat → Int32} {of : Int32} {tr : Nat → Int32} {b1 : Nat → Int32} {ta : Nat → Int32} {tm : Nat} {so : Int32} {be : Int32} {te : Int32} {wo : Int64} {va : Int32} {gd : Int32} {bi : Nat → Int32} {si : Nat → Int32} {sh : Nat → Int64} {le : Nat → Int64} {im : Nat → Int32} {bf : Nat → Int32} {kp : Int32} (z i : Nat) (hI : Inv s) (hZ : ∀ k, inR (si k) 0 40) (hz : z < 4) (hi : i < 8) : Runs 6 yX5_isSo cX5_isSo 5 (some .boolean) [.ref 0, .int (nI z), .int (nI i)] (mW (rowOf s) fo of tr b1 ta tm so be te wo va gd bi si sh le im bf kp) (fun r0 w0 => ∃ r1 o1, r0 = some (.int (bI (jst s sh z i (szN si z) = true))) ∧ w0 = mW r1 fo o1 tr b1 ta tm so be te wo va gd bi si sh le im bf kp) := by
  refine Runs.of (by decide) (Nat.le_of_ble_eq_true rfl) rfl ?_
  intro X g hret hnL
  obtain ⟨es, hs40⟩ := szN_e (hZ z)
  refine v_iconst (pc := 0) (v := 1) g dX5_isSo_0 (by decide) ?_
  refine v_istore_n (pc := 1) 3 _ g dX5_isSo_1 rfl (Nat.le_of_ble_eq_true rfl) hnL.symm rfl ?_
  refine v_iconst (pc := 2) (v := 0) g dX5_isSo_2 (by decide) ?_
  refine v_istore (pc := 3) _ g dX5_isSo_3 (Nat.le_of_ble_eq_true rfl) hnL.symm rfl ?_
  have L5 : ∀ (fu : Nat) (k : Nat), k ≤ szN si z → szN si z - k < fu → V X 5 [some (.ref 0), some (.int (nI z)), some (.int (nI i)), some (.int (bI (jst s sh z i k = true))), some (.int (nI k))] [] (mW (rowOf (minN s k)) fo (weN s of k) tr b1 ta tm so be te wo va gd bi si sh le im bf kp) := by
    intro fu
    induction fu with
    | zero => intro k hk hm; exact absurd hm (Nat.not_lt_zero _)
    | succ fu ih =>
      intro k hk hm
      refine v_iload (pc := 5) g dX5_isSo_5 rfl ?_
      refine v_aload_n (pc := 7) 0 g dX5_isSo_7 rfl rfl ?_
      refine v_get (pc := 8) g dX5_isSo_8 fl_X5_28 rfl rfl ?_
      refine v_iload_n (pc := 11) 1 g dX5_isSo_11 rfl rfl ?_
      refine v_ialdN (pc := 12) _ g dX5_isSo_12 rfl rfl (by omega) (Nat.le_of_ble_eq_true rfl) ?_
      rw [es]
      refine v_icmp_ge (pc := 13) 59 g dX5_isSo_13 rfl (fun c13 => ?_) (fun c13 => ?_)
      · have e13 : k = szN si z := ge_t (n := szN si z) rfl hk (by omega) c13
        subst e13
        refine v_iload_n (pc := 59) 3 g dX5_isSo_59 rfl rfl ?_
        exact v_zret (pc := 60) g hret dX5_isSo_60 (by first | exact nb1 | exact nb0 | exact nbI) (by first | exact ⟨_, _, rfl, rfl⟩ | exact ⟨_, _, so_i (by rw [bI_0 c17, bI_0 (by rw [jst_no (Bool.eq_false_iff.mpr c17) _ (by omega)]; exact Bool.false_ne_true)]), rfl⟩)
      · have e13 : k < szN si z := ge_f (n := szN si z) rfl hk (by omega) c13
        refine v_iload_n (pc := 16) 3 g dX5_isSo_16 rfl rfl ?_
        refine v_ifb_eq (pc := 17) 59 g dX5_isSo_17 rfl (fun c17 => ?_) (fun c17 => ?_)
        · refine v_iload_n (pc := 59) 3 g dX5_isSo_59 rfl rfl ?_
          exact v_zret (pc := 60) g hret dX5_isSo_60 (by first | exact nb1 | exact nb0 | exact nbI) (by first | exact ⟨_, _, rfl, rfl⟩ | exact ⟨_, _, so_i (by rw [bI_0 c17, bI_0 (by rw [jst_no (Bool.eq_false_iff.mpr c17) _ (by omega)]; exact Bool.false_ne_true)]), rfl⟩)
        · refine v_aload_n (pc := 20) 0 g dX5_isSo_20 rfl rfl ?_
          refine v_get (pc := 21) g dX5_isSo_21 fl_X5_31 rfl rfl ?_
          refine v_bipush (pc := 24) (v := 40) g dX5_isSo_24 (by decide) ?_
          refine v_iload_n (pc := 26) 1 g dX5_isSo_26 rfl rfl ?_
          refine v_imul (pc := 27) g dX5_isSo_27 ?_
          refine v_iload (pc := 28) g dX5_isSo_28 rfl ?_
          refine v_iadd (pc := 30) g dX5_isSo_30 ?_
          refine v_laldN (pc := 31) _ g dX5_isSo_31 rfl (ix_s2 z k) (by omega) (Nat.le_of_ble_eq_true rfl) ?_
          refine v_aload_n (pc := 32) 0 g dX5_isSo_32 rfl rfl ?_
          refine v_iload_n (pc := 33) 2 g dX5_isSo_33 rfl rfl ?_
          refine v_iconst (pc := 34) (v := 4) g dX5_isSo_34 (by decide) ?_
          refine v_cVd (pc := 35) g dX5_isSo_35 lk_X5_53 (c_it_Ti (minN s k) i (by omega)) (Nat.le_of_ble_eq_true rfl) rfl rfl rfl rfl (Nat.le_of_ble_eq_true rfl) ?_
          refine v_i2l (pc := 38) g dX5_isSo_38 ?_
          refine v_lcmp (pc := 39) g dX5_isSo_39 ?_
          refine v_if_ne (pc := 40) 47 g dX5_isSo_40 rfl (fun c40 => ?_) (fun c40 => ?_)
          · have ej : jst s sh z i (k + 1) = false := by rw [jst, c17, Bool.true_and]; exact decide_eq_false (fun y => c40 (lg_eq.mpr y))
            refine v_iconst (pc := 47) (v := 0) g dX5_isSo_47 (by decide) ?_
            refine v_stE [.int (bI (jst s sh z i (k + 1) = true))] (by first | (rw [bI_1 ej]; first | done | rfl) | (rw [bI_0 (by rw [ej]; exact Bool.false_ne_true)]; first | done | rfl)) ?_
            refine v_istore_n (pc := 48) 3 _ g dX5_isSo_48 rfl (Nat.le_of_ble_eq_true rfl) hnL.symm rfl ?_
            refine v_aload_n (pc := 49) 0 g dX5_isSo_49 rfl rfl ?_
            refine v_cVd (pc := 50) g dX5_isSo_50 lk_X5_148 (c_X5_oneMinute (minN s k) (hI.minN k)) (Nat.le_of_ble_eq_true rfl) rfl rfl rfl rfl (Nat.le_of_ble_eq_true rfl) ?_
            refine v_iincN (pc := 53) g dX5_isSo_53 rfl hnL.symm ?_
            refine v_goto (pc := 56) 5 g dX5_isSo_56 rfl ?_
            exact ih (k + 1) (by omega) (by omega)
          · have ej : jst s sh z i (k + 1) = true := by rw [jst, c17, Bool.true_and]; exact decide_eq_true (lg_eq.mp c40)
            refine v_iconst (pc := 43) (v := 1) g dX5_isSo_43 (by decide) ?_
            refine v_goto (pc := 44) 48 g dX5_isSo_44 rfl ?_
            refine v_stE [.int (bI (jst s sh z i (k + 1) = true))] (by first | (rw [bI_1 ej]; first | done | rfl) | (rw [bI_0 (by rw [ej]; exact Bool.false_ne_true)]; first | done | rfl)) ?_
            refine v_istore_n (pc := 48) 3 _ g dX5_isSo_48 rfl (Nat.le_of_ble_eq_true rfl) hnL.symm rfl ?_
            refine v_aload_n (pc := 49) 0 g dX5_isSo_49 rfl rfl ?_
            refine v_cVd (pc := 50) g dX5_isSo_50 lk_X5_148 (c_X5_oneMinute (minN s k) (hI.minN k)) (Nat.le_of_ble_eq_true rfl) rfl rfl rfl rfl (Nat.le_of_ble_eq_true rfl) ?_
            refine v_iincN (pc := 53) g dX5_isSo_53 rfl hnL.symm ?_
            refine v_goto (pc := 56) 5 g dX5_isSo_56 rfl ?_
            exact ih (k + 1) (by omega) (by omega)
  exact L5 (szN si z + 1) 0 (Nat.zero_le _) (by omega)
set_option maxRecDepth 20000 in
set_option maxHeartbeats 2000000 in
theorem c_X5_read (S : St) {fo : Nat → Int32} {of : Int32} {tr : Nat → Int32} {b1 : Nat → Int32} {ta : Nat → Int32} {tm : Nat} {so : Int32} {be : Int32} {te : Int32} {wo : Int64} {va : Int32} {gd : Int32} {bi : Nat → Int32} {si : Nat → Int32} {sh : Nat → Int64} {le : Nat → Int64} {im : Nat → Int32} {bf : Nat → Int32} {kp : Int32} (s p : Int32) (hI : Inv S) (hZ : ∀ k, inR (si k) 0 40) : Runs 7 yX5_read cX5_read 6 (some .int) [.ref 0, .int s, .int p] (mW (rowOf S) fo of tr b1 ta tm so be te wo va gd bi si sh le im bf kp) (fun r0 w0 => ∃ o1 t1, r0 = some (.int (r_30 S bi si sh s p)) ∧ w0 = mW (rowOf S) (f_29 S bi fo s p) o1 tr t1 ta tm so be te wo va gd bi si sh le im bf kp) := by
  refine Runs.of (by decide) (Nat.le_of_ble_eq_true rfl) rfl ?_
  intro X g hret hnL
  refine v_aload_n (pc := 0) 0 g dX5_read_0 rfl rfl ?_
  refine v_iload_n (pc := 1) 1 g dX5_read_1 rfl rfl ?_
  refine v_cVd (pc := 2) g dX5_read_2 lk_X5_274 (c_X5_badSheet _ _) (Nat.le_of_ble_eq_true rfl) rfl rfl rfl rfl (Nat.le_of_ble_eq_true rfl) ?_
  refine v_istore_n (pc := 5) 3 _ g dX5_read_5 rfl (Nat.le_of_ble_eq_true rfl) hnL.symm rfl ?_
  refine v_iload_n (pc := 6) 3 g dX5_read_6 rfl rfl ?_
  refine v_if_eq (pc := 7) 16 g dX5_read_7 rfl (fun c7 => ?_) (fun c7 => ?_)
  · obtain ⟨hS, hM⟩ := bdS_ok c7
    obtain ⟨z, hz, rfl⟩ := (show inR s 0 3 from hS).nat (m := 3) (by omega)
    have ez : (nI z).toNatClampNeg = z := nI_clamp (by omega)
    rw [ez] at hM
    obtain ⟨es, hs40⟩ := szN_e (hZ z)
    refine v_aload_n (pc := 16) 0 g dX5_read_16 rfl rfl ?_
    refine v_iload_n (pc := 17) 2 g dX5_read_17 rfl rfl ?_
    refine v_cVd (pc := 18) g dX5_read_18 lk_X5_111 (c_X5_isOne S _ hI.n) (Nat.le_of_ble_eq_true rfl) rfl rfl rfl rfl (Nat.le_of_ble_eq_true rfl) ?_
    refine v_ifb_ne (pc := 21) 31 g dX5_read_21 rfl (fun c21 => ?_) (fun c21 => ?_)
    · have hC : isP S p := c21
      obtain ⟨i, hi, rfl⟩ := hC.nat hI.n
      have ei : (nI i).toNatClampNeg = i := nI_clamp (by have := hI.n; omega)
      refine v_iconst (pc := 31) (v := 0) g dX5_read_31 (by decide) ?_
      refine v_istore (pc := 32) _ g dX5_read_32 (Nat.le_of_ble_eq_true rfl) hnL.symm rfl ?_
      refine v_aload_n (pc := 34) 0 g dX5_read_34 rfl rfl ?_
      refine v_iconst (pc := 35) (v := 1) g dX5_read_35 (by decide) ?_
      refine v_aload_n (pc := 36) 0 g dX5_read_36 rfl rfl ?_
      refine v_get (pc := 37) g dX5_read_37 fl_X5_19 rfl rfl ?_
      refine v_cVd (pc := 40) g dX5_read_40 lk_X5_156 (c_mvK_b1 (rowOf S)) (Nat.le_of_ble_eq_true rfl) rfl rfl rfl rfl (Nat.le_of_ble_eq_true rfl) ?_
      refine v_iconst (pc := 43) (v := 0) g dX5_read_43 (by decide) ?_
      refine v_istore (pc := 44) _ g dX5_read_44 (Nat.le_of_ble_eq_true rfl) hnL.symm rfl ?_
      refine v_fg [true, true, true, false, true, true] ?_
      have L46 : ∀ (fu : Nat) (of : Int32) (k : Nat), k ≤ 600 → 600 - k < fu → V X 46 [some (.ref 0), some (.int (nI z)), some (.int (nI i)), none, some (.int (cntN (pR S si sh z i) (k))), some (.int (nI (k)))] [] (mW (rowOf S) fo of tr (rowOf S) ta tm so be te wo va gd bi si sh le im bf kp) := by
        intro fu
        induction fu with
        | zero => intro of k hk hm; exact absurd hm (Nat.not_lt_zero _)
        | succ fu ih =>
          intro of k hk hm
          refine v_iload (pc := 46) g dX5_read_46 rfl ?_
          refine v_sipush (pc := 48) (v := 600) g dX5_read_48 (by decide) ?_
          refine v_icmp_ge (pc := 51) 110 g dX5_read_51 rfl (fun c51 => ?_) (fun c51 => ?_)
          · have e51 : k = 600 := ge_t (n := 600) rfl hk (by omega) c51
            subst e51
            refine v_iload (pc := 110) g dX5_read_110 rfl ?_
            exact v_iret (pc := 112) g hret dX5_read_112 (⟨_, _, so_i (by unfold r_30 r30k; rw [if_pos hS, ez, if_neg hM, if_pos hC, ei]), by unfold f_29 f29k; rw [if_pos hS, ez, if_neg hM, if_pos hC]⟩)
          · have e51 : k < 600 := ge_f (n := 600) rfl hk (by omega) c51
            refine v_aload_n (pc := 54) 0 g dX5_read_54 rfl rfl ?_
            refine v_iload_n (pc := 55) 2 g dX5_read_55 rfl rfl ?_
            refine v_iconst (pc := 56) (v := 0) g dX5_read_56 (by decide) ?_
            refine v_iload (pc := 57) g dX5_read_57 rfl ?_
            refine v_bipush (pc := 59) (v := 100) g dX5_read_59 (by decide) ?_
            refine v_idiv (pc := 61) g dX5_read_61 (by decide) ?_
            rw [show nI k / 100 = nI (k / 100) from pk_div (d := 100) (by omega) (by omega) (by omega)]
            refine v_cVd (pc := 62) g dX5_read_62 lk_X5_99 (c_pu_Ki S i _ (by have := hI.n; omega)) (Nat.le_of_ble_eq_true rfl) rfl rfl rfl rfl (Nat.le_of_ble_eq_true rfl) ?_
            refine v_aload_n (pc := 65) 0 g dX5_read_65 rfl rfl ?_
            refine v_iload_n (pc := 66) 2 g dX5_read_66 rfl rfl ?_
            refine v_iconst (pc := 67) (v := 3) g dX5_read_67 (by decide) ?_
            refine v_iload (pc := 68) g dX5_read_68 rfl ?_
            refine v_bipush (pc := 70) (v := 100) g dX5_read_70 (by decide) ?_
            refine v_irem (pc := 72) g dX5_read_72 (by decide) ?_
            rw [show nI k - nI k / 100 * 100 = nI (k % 100) from pk_rem (d := 100) (by omega) (by omega) (by omega)]
            refine v_cVd (pc := 73) g dX5_read_73 lk_X5_99 (c_pu_Co _ i _ (by have := hI.n; omega)) (Nat.le_of_ble_eq_true rfl) rfl rfl rfl rfl (Nat.le_of_ble_eq_true rfl) ?_
            refine v_w (mW (rowOf (kc S i (k / 100) (k % 100))) fo of tr (rowOf S) ta tm so be te wo va gd bi si sh le im bf kp) rfl ?_
            refine v_iload (pc := 76) g dX5_read_76 rfl ?_
            refine v_aload_n (pc := 78) 0 g dX5_read_78 rfl rfl ?_
            refine v_iload_n (pc := 79) 1 g dX5_read_79 rfl rfl ?_
            refine v_iload_n (pc := 80) 2 g dX5_read_80 rfl rfl ?_
            refine v_cV (pc := 81) g dX5_read_81 lk_X5_279 (Nat.le_of_ble_eq_true rfl) (c_X5_isSo (kc S i (k / 100) (k % 100)) z i (hI.kc i (by omega) (by omega)) hZ (by omega) (by have := hI.n; omega)) rfl rfl rfl rfl (Nat.le_of_ble_eq_true rfl) (fun r1 w1 hq => ?_)
            obtain ⟨r1, o1, rfl, rfl⟩ := hq
            refine v_ifb_eq (pc := 84) 91 g dX5_read_84 rfl (fun c84 => ?_) (fun c84 => ?_)
            · have eb : cntN (pR S si sh z i) (k + 1) = cntN (pR S si sh z i) k + 0 := by rw [cnt_f (p := (pR S si sh z i)) (k := k) (Bool.eq_false_iff.mpr c84), Int32.add_zero]
              refine v_iconst (pc := 91) (v := 0) g dX5_read_91 (by decide) ?_
              refine v_iadd (pc := 92) g dX5_read_92 ?_
              refine v_istore (pc := 93) _ g dX5_read_93 (Nat.le_of_ble_eq_true rfl) hnL.symm rfl ?_
              refine v_aload_n (pc := 95) 0 g dX5_read_95 rfl rfl ?_
              refine v_iconst (pc := 96) (v := 0) g dX5_read_96 (by decide) ?_
              refine v_aload_n (pc := 97) 0 g dX5_read_97 rfl rfl ?_
              refine v_get (pc := 98) g dX5_read_98 fl_X5_19 rfl rfl ?_
              refine v_cVd (pc := 101) g dX5_read_101 lk_X5_156 (c_mvB_b1 _) (Nat.le_of_ble_eq_true rfl) rfl rfl rfl rfl (Nat.le_of_ble_eq_true rfl) ?_
              refine v_iincN (pc := 104) g dX5_read_104 rfl hnL.symm ?_
              refine v_goto (pc := 107) 46 g dX5_read_107 rfl ?_
              refine v_fg [true, true, true, false, true, true] ?_
              refine v_loE [some (.ref 0), some (.int (nI z)), some (.int (nI i)), none, some (.int (cntN (pR S si sh z i) (k + 1))), some (.int (nI (k + 1)))] (by rw [eb]; rfl) ?_
              exact ih _ (k + 1) (by omega) (by omega)
            · have eb : cntN (pR S si sh z i) (k + 1) = cntN (pR S si sh z i) k + 1 := cnt_t (p := (pR S si sh z i)) (k := k) c84
              refine v_iconst (pc := 87) (v := 1) g dX5_read_87 (by decide) ?_
              refine v_goto (pc := 88) 92 g dX5_read_88 rfl ?_
              refine v_iadd (pc := 92) g dX5_read_92 ?_
              refine v_istore (pc := 93) _ g dX5_read_93 (Nat.le_of_ble_eq_true rfl) hnL.symm rfl ?_
              refine v_aload_n (pc := 95) 0 g dX5_read_95 rfl rfl ?_
              refine v_iconst (pc := 96) (v := 0) g dX5_read_96 (by decide) ?_
              refine v_aload_n (pc := 97) 0 g dX5_read_97 rfl rfl ?_
              refine v_get (pc := 98) g dX5_read_98 fl_X5_19 rfl rfl ?_
              refine v_cVd (pc := 101) g dX5_read_101 lk_X5_156 (c_mvB_b1 _) (Nat.le_of_ble_eq_true rfl) rfl rfl rfl rfl (Nat.le_of_ble_eq_true rfl) ?_
              refine v_iincN (pc := 104) g dX5_read_104 rfl hnL.symm ?_
              refine v_goto (pc := 107) 46 g dX5_read_107 rfl ?_
              refine v_fg [true, true, true, false, true, true] ?_
              refine v_loE [some (.ref 0), some (.int (nI z)), some (.int (nI i)), none, some (.int (cntN (pR S si sh z i) (k + 1))), some (.int (nI (k + 1)))] (by rw [eb]; rfl) ?_
              exact ih _ (k + 1) (by omega) (by omega)
      exact L46 601 _ 0 (Nat.zero_le _) (by omega)
    · refine v_aload_n (pc := 24) 0 g dX5_read_24 rfl rfl ?_
      refine v_ldc (pc := 25) g dX5_read_25 co_X5_44 ?_
      refine v_cVd (pc := 27) g dX5_read_27 lk_X5_81 (c_X5_finds _ 0 (-1000000001) (by decide) (by decide)) (Nat.le_of_ble_eq_true rfl) rfl rfl rfl rfl (Nat.le_of_ble_eq_true rfl) ?_
      exact v_iret (pc := 30) g hret dX5_read_30 (⟨_, _, so_i (by unfold r_30 r30k; rw [if_pos hS, ez, if_neg hM, if_neg c21]), by unfold f_29 f29k; rw [if_pos hS, ez, if_neg hM, if_neg c21]⟩)
  · rcases bdS_no c7 with ⟨hS, hM, e7⟩ | ⟨hS, e7⟩
    · rw [e7]
      refine v_aload_n (pc := 10) 0 g dX5_read_10 rfl rfl ?_
      refine v_iload_n (pc := 11) 3 g dX5_read_11 rfl rfl ?_
      refine v_cVd (pc := 12) g dX5_read_12 lk_X5_81 (c_X5_finds _ 5 (-1000000006) (by decide) (by decide)) (Nat.le_of_ble_eq_true rfl) rfl rfl rfl rfl (Nat.le_of_ble_eq_true rfl) ?_
      exact v_iret (pc := 15) g hret dX5_read_15 (⟨_, _, so_i (by unfold r_30 r30k; rw [if_pos hS, if_pos hM]), by unfold f_29 f29k; rw [if_pos hS, if_pos hM]⟩)
    · rw [e7]
      refine v_aload_n (pc := 10) 0 g dX5_read_10 rfl rfl ?_
      refine v_iload_n (pc := 11) 3 g dX5_read_11 rfl rfl ?_
      refine v_cVd (pc := 12) g dX5_read_12 lk_X5_81 (c_X5_finds _ 0 (-1000000001) (by decide) (by decide)) (Nat.le_of_ble_eq_true rfl) rfl rfl rfl rfl (Nat.le_of_ble_eq_true rfl) ?_
      exact v_iret (pc := 15) g hret dX5_read_15 (⟨_, _, so_i (by unfold r_30; rw [if_neg hS]), by unfold f_29; rw [if_neg hS]⟩)
