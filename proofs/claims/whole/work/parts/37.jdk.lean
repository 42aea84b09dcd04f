/-! ===== String constants: rows; the JDK's own methods ===== -/
theorem jw_38 : Cond.fieldLink RJ0 38 RJ0 "COMPACT_STRINGS" "Z" ∈ tbG := tbG_in (List.mem_of_getElem? (i := 547) (by decide +kernel)) (by decide +kernel)
theorem jw_1053 : Cond.fieldLink RJ0 1053 RJ3 "SIOOBE_FORMATTER" "Ljava/util/function/BiFunction;" ∈ tbG := tbG_in (List.mem_of_getElem? (i := 563) (by decide +kernel)) (by decide +kernel)
theorem jw_9 : Cond.fieldLink RJ0 9 RJ0 "value" "[B" ∈ tbG := tbG_in (List.mem_of_getElem? (i := 1147) (by decide +kernel)) (by decide +kernel)
theorem jw_15 : Cond.fieldLink RJ0 15 RJ0 "coder" "B" ∈ tbG := tbG_in (List.mem_of_getElem? (i := 1148) (by decide +kernel)) (by decide +kernel)
theorem v_ldcS {X : VX} {cc : ByteArray} {d pc : Nat} {lo : List (Option Value)} {st : List Value} {w : PW} {idx : Nat} {tx : String} (i : Nat) (g : VG X cc RX3 d) (hd : decode cc pc = .ok (.ldc idx, 2)) (hi : strT[i]? = some (idx, tx)) (k : V X (pc + 2) lo (.ref (1000 + i) :: st) w) : V X pc lo st w := by
  obtain ⟨p, l, e, R, s, m, args, below, meth, c, D, cI, cJ, ad, N, Z, nL, kc, ks⟩ := X
  obtain ⟨hx, hb, hml, hown, hts, hK, hinj, hR, hC⟩ := g
  intro hN H locs ls hP hS hl
  exact va_ldcS hx hb hown (hK.2.2.2.1 i _ hi) hd (k hN H locs ls hP hS hl)
theorem v_sCod {X : VX} {cc : ByteArray} {d pc : Nat} {lo : List (Option Value)} {st : List Value} {w : PW} {i : Nat} (g : VG X cc RJ0 d) (hd : decode cc pc = .ok (.getfield 15, 3)) (hi : i < 13) (k : V X (pc + 3) lo (.int 0 :: st) w) : V X pc lo (.ref (1000 + i) :: st) w := by
  obtain ⟨p, l, e, R, s, m, args, below, meth, c, D, cI, cJ, ad, N, Z, nL, kc, ks⟩ := X
  obtain ⟨hx, hb, hml, hown, hts, hK, hinj, hR, hC⟩ := g
  intro hN H locs ls hP hS hl
  exact vk_getf hx hb (hK.2.2.1.1 i hi).2.1 hS hown (hts _ jw_15) (fun _ h => h) hd (k hN H locs ls hP hS hl)
theorem v_sVal {X : VX} {cc : ByteArray} {d pc : Nat} {lo : List (Option Value)} {st : List Value} {w : PW} {i : Nat} (g : VG X cc RJ0 d) (hd : decode cc pc = .ok (.getfield 9, 3)) (hi : i < 13) (k : V X (pc + 3) lo (.ref (2000 + i) :: st) w) : V X pc lo (.ref (1000 + i) :: st) w := by
  obtain ⟨p, l, e, R, s, m, args, below, meth, c, D, cI, cJ, ad, N, Z, nL, kc, ks⟩ := X
  obtain ⟨hx, hb, hml, hown, hts, hK, hinj, hR, hC⟩ := g
  intro hN H locs ls hP hS hl
  exact vk_getf hx hb (hK.2.2.1.1 i hi).2.2.1 hS hown (hts _ jw_9) (fun _ h => h) hd (k hN H locs ls hP hS hl)
theorem v_gCS {X : VX} {cc : ByteArray} {d pc : Nat} {lo : List (Option Value)} {st : List Value} {w : PW} (g : VG X cc RJ0 d) (hd : decode cc pc = .ok (.getstatic 38, 3)) (k : V X (pc + 3) lo (.int 1 :: st) w) : V X pc lo st w := by
  obtain ⟨p, l, e, R, s, m, args, below, meth, c, D, cI, cJ, ad, N, Z, nL, kc, ks⟩ := X
  obtain ⟨hx, hb, hml, hown, hts, hK, hinj, hR, hC⟩ := g
  intro hN H locs ls hP hS hl
  exact va_gets hx hb hK.2.2.2.2.1 hS hown (hts _ jw_38) (fun _ h => h) hd (k hN H locs ls hP hS hl)
theorem v_gSF {X : VX} {cc : ByteArray} {d pc : Nat} {lo : List (Option Value)} {st : List Value} {w : PW} (g : VG X cc RJ0 d) (hd : decode cc pc = .ok (.getstatic 1053, 3)) (k : ∀ v, v = .null ∨ v = .ref 3001 → V X (pc + 3) lo (v :: st) w) : V X pc lo st w := by
  obtain ⟨p, l, e, R, s, m, args, below, meth, c, D, cI, cJ, ad, N, Z, nL, kc, ks⟩ := X
  obtain ⟨hx, hb, hml, hown, hts, hK, hinj, hR, hC⟩ := g
  intro hN H locs ls hP hS hl
  rcases hK.2.2.2.2.2 with q | q
  · exact va_gets hx hb q hS hown (hts _ jw_1053) (fun _ h => h) hd (k .null (Or.inl rfl) hN H locs ls hP hS hl)
  · exact va_gets hx hb q hS hown (hts _ jw_1053) (fun _ h => h) hd (k (.ref 3001) (Or.inr rfl) hN H locs ls hP hS hl)
theorem v_bLen {own : String} {X : VX} {cc : ByteArray} {d pc : Nat} {lo : List (Option Value)} {st : List Value} {w : PW} {i : Nat} (g : VG X cc own d) (hd : decode cc pc = .ok (.arraylength, 1)) (hi : i < 13) (k : V X (pc + 1) lo (.int (nI (lnS i)) :: st) w) : V X pc lo (.ref (2000 + i) :: st) w := by
  obtain ⟨p, l, e, R, s, m, args, below, meth, c, D, cI, cJ, ad, N, Z, nL, kc, ks⟩ := X
  obtain ⟨hx, hb, hml, hown, hts, hK, hinj, hR, hC⟩ := g
  intro hN H locs ls hP hS hl
  exact va_tlen hx hb (hK.2.2.1.1 i hi).2.2.2 hS rfl hd (k hN H locs ls hP hS hl)
theorem lnS_lt (i : Nat) : lnS i < 8 := by
  rcases Nat.lt_or_ge i 13 with h | h
  · have : ∀ i, i < 13 → lnS i < 8 := by decide +kernel
    exact this i h
  · unfold lnS
    rw [List.getD_eq_getElem?_getD, List.getElem?_eq_none (by show 13 ≤ i; exact h)]
    decide
theorem v_bAld {own : String} {X : VX} {cc : ByteArray} {d pc : Nat} {lo : List (Option Value)} {st : List Value} {w : PW} {i : Nat} (j : Nat) (g : VG X cc own d) (hd : decode cc pc = .ok (.baload, 1)) (hi : i < 13) (hj : j < lnS i) (k : V X (pc + 1) lo (.int (chS i j) :: st) w) : V X pc lo (.int (nI j) :: .ref (2000 + i) :: st) w := by
  have h8 := lnS_lt i
  obtain ⟨p, l, e, R, s, m, args, below, meth, c, D, cI, cJ, ad, N, Z, nL, kc, ks⟩ := X
  obtain ⟨hx, hb, hml, hown, hts, hK, hinj, hR, hC⟩ := g
  intro hN H locs ls hP hS hl
  exact va_tb hx hb (hK.2.2.1.1 i hi).2.2.2 hS (vp_in_nI hj (by show lnS i < _; omega)) (v := .int (chS i j)) (by rw [nI_clamp (by omega)]; rfl) hd (k hN H locs ls hP hS hl)
theorem v_cVs {X : VX} {cc : ByteArray} {own : String} {d d' pc : Nat} {lo : List (Option Value)} {rest st : List Value} {w w' : PW} {idx : Nat} {y : MethodName} {cy : ByteArray} {mL : Nat} {ret : Option FieldType} {i : Nat} {As : List Value} {r : Option Value} (g : VG X cc own d) (hd : decode cc pc = .ok (.invokevirtual idx, 3)) {n0 : Nat} (hL : LV own idx y cy mL ret n0) (hM : RunD d' y cy mL ret (.ref (1000 + i) :: As) w r w') (hdd : d' + 1 ≤ d) (hn0 : As.length = n0) (hst : st = stk (.ref (1000 + i) :: As) rest) (hi : i < 13) (hy : y.cls = RJ0) (hW : (rest.map fun v => v.category).sum ≤ 8) (k : V X (pc + 3) lo (pushO r rest) w') : V X pc lo st w := by
  obtain ⟨p, l, e, R, s, m, args, below, meth, c, D, cI, cJ, ad, N, Z, nL, kc, ks⟩ := X
  obtain ⟨hx, hb, hml, hown, hts, hK, hinj, hR, hC⟩ := g
  obtain ⟨⟨l1, l2, l3, l4, l5, l6⟩, l7, l8, l9⟩ := hL
  intro hN H locs ls hP hS hl
  subst hN
  subst hn0
  rw [stk_eq, List.reverse_cons, List.append_assoc] at hst
  subst hst
  have hgood : GoodIn tbG (wsV own idx y.cls y (Cond.code y cy mL ret :: tbG)) := fun x hx => by
    simp only [wsV, List.cons_append, List.nil_append, List.mem_cons] at hx
    rcases hx with rfl | rfl | rfl | rfl | rfl | hx
    · exact tbG_good _ l7
    · exact tbG_good _ l8
    · exact tbG_good _ l9
    · exact tbG_good _ l1
    · exact tbG_good _ l2
    · exact tbG_good _ hx
  have hrecv := vk_recv hK.2.2.1 hi hS
  rw [show "java/lang/String" = y.cls from hy.symm] at hrecv
  refine v_core (D := D) (cI := cI) (cJ := cJ) (ad := ad) (N := w.length) (rest := rest) (Q' := fun r0 w0 => r0 = r ∧ w0 = w') (va_runV (As := As.map (cV ad)) (b := ad (1000 + i)) (rest := rest.map (cV ad)) ⟨hx, hb, hml, hown, hts⟩ (hM l D cI cJ ad) (cwV As.length hts hgood rfl rfl rfl ⟨rfl, l3, l4, l5⟩ ⟨by have := hR.1; show d' + 1 ≤ _; omega, by have := hR.2; show 8 + (mL + 11) + 38 * d' ≤ _; omega⟩) ⟨PcV.blind, hrecv, fun U hU hW => vPc hK hP hS hinj hU hW⟩ rfl (by rw [List.length_map]) hl.1 (by rw [List.map_append, List.map_reverse]; rfl) ?_ hd ⟨hC.1, hC.2⟩) hS (fun r0 w0 hq hlen H1 locs1 hP1 hS1 => by obtain ⟨rfl, rfl⟩ := hq; exact k hlen H1 locs1 ls hP1 hS1 hl)
  exact lv_room (by rw [cV_sum]; exact hW)
theorem nbB0 : narrow .byte (.int 0) = .int 0 := by decide
theorem c_coder (w : PW) (i : Nat) (hi : i < 13) : RunD 0 yJ0_coder_7d493 cJ0_coder_7d493 1 (some .byte) [.ref (1000 + i)] w (some (.int 0)) w := by
  refine Runs.of (by decide) (Nat.le_of_ble_eq_true rfl) rfl ?_
  intro X g hret hnL
  refine v_gCS (pc := 0) g dJ0_coder_7d493_0 ?_
  refine v_if_eq (pc := 3) 13 g dJ0_coder_7d493_3 rfl (fun c => absurd c (by decide)) (fun _ => ?_)
  refine v_aload_n (pc := 6) 0 g dJ0_coder_7d493_6 rfl rfl ?_
  refine v_sCod (pc := 7) g dJ0_coder_7d493_7 hi ?_
  refine v_goto (pc := 10) 14 g dJ0_coder_7d493_10 rfl ?_
  exact v_zret (pc := 14) g hret dJ0_coder_7d493_14 nbB0 ⟨rfl, rfl⟩
theorem c_isLat (w : PW) (i : Nat) (hi : i < 13) : RunD 0 yJ0_isLatin1_aae02 cJ0_isLatin1_aae02 1 (some .boolean) [.ref (1000 + i)] w (some (.int 1)) w := by
  refine Runs.of (by decide) (Nat.le_of_ble_eq_true rfl) rfl ?_
  intro X g hret hnL
  refine v_gCS (pc := 0) g dJ0_isLatin1_aae02_0 ?_
  refine v_if_eq (pc := 3) 17 g dJ0_isLatin1_aae02_3 rfl (fun c => absurd c (by decide)) (fun _ => ?_)
  refine v_aload_n (pc := 6) 0 g dJ0_isLatin1_aae02_6 rfl rfl ?_
  refine v_sCod (pc := 7) g dJ0_isLatin1_aae02_7 hi ?_
  refine v_if_ne (pc := 10) 17 g dJ0_isLatin1_aae02_10 rfl (fun c => absurd rfl c) (fun _ => ?_)
  refine v_iconst (pc := 13) (v := 1) g dJ0_isLatin1_aae02_13 (by decide) ?_
  refine v_goto (pc := 14) 18 g dJ0_isLatin1_aae02_14 rfl ?_
  exact v_zret (pc := 18) g hret dJ0_isLatin1_aae02_18 nb1 ⟨rfl, rfl⟩
theorem c_strLen (w : PW) (i : Nat) (hi : i < 13) : RunD 1 yJ0_length_8abf5 cJ0_length_8abf5 1 (some .int) [.ref (1000 + i)] w (some (.int (nI (lnS i)))) w := by
  refine Runs.of (by decide) (Nat.le_of_ble_eq_true rfl) rfl ?_
  intro X g hret hnL
  refine v_aload_n (pc := 0) 0 g dJ0_length_8abf5_0 rfl rfl ?_
  refine v_sVal (pc := 1) g dJ0_length_8abf5_1 hi ?_
  refine v_bLen (pc := 4) g dJ0_length_8abf5_4 hi ?_
  refine v_aload_n (pc := 5) 0 g dJ0_length_8abf5_5 rfl rfl ?_
  refine v_cVs (pc := 6) g dJ0_length_8abf5_6 lk_J0_335 (c_coder w i hi) (Nat.le_of_ble_eq_true rfl) rfl rfl hi rfl (Nat.le_of_ble_eq_true rfl) ?_
  refine v_ishr (pc := 9) g dJ0_length_8abf5_9 ?_
  refine v_stE [.int (nI (lnS i))] ?_ ?_
  · have : ∀ i, i < 13 → nI (lnS i) >>> ((0 : Int32) &&& 31) = nI (lnS i) := by decide +kernel
    rw [this i hi]
  exact v_iret (pc := 10) g hret dJ0_length_8abf5_10 ⟨rfl, rfl⟩
theorem c_chk3 (w : PW) (j n : Nat) (v : Value) (hv : v = .null ∨ v = .ref 3001) (hj : j < n) (hn : n < 1000) : RunD 0 yJ3_checkIndex_8e157 cJ3_checkIndex_8e157 3 (some .int) [.int (nI j), .int (nI n), v] w (some (.int (nI j))) w := by
  refine Runs.of (by decide) (by rcases hv with rfl | rfl <;> exact (Nat.le_of_ble_eq_true rfl)) (show eL 3 [.int (nI j), .int (nI n), v] = [some (.int (nI j)), some (.int (nI n)), some v] by rcases hv with rfl | rfl <;> rfl) ?_
  intro X g hret hnL
  refine v_iload_n (pc := 0) 0 g dJ3_checkIndex_8e157_0 rfl rfl ?_
  refine v_if_lt (pc := 1) 9 g dJ3_checkIndex_8e157_1 rfl (fun c => absurd c (Int32.not_lt.mpr (nI_leI (a := 0) (b := j) (by omega) (by omega) |>.mpr (Nat.zero_le _)))) (fun _ => ?_)
  refine v_iload_n (pc := 4) 0 g dJ3_checkIndex_8e157_4 rfl rfl ?_
  refine v_iload_n (pc := 5) 1 g dJ3_checkIndex_8e157_5 rfl rfl ?_
  refine v_icmp_lt (pc := 6) 16 g dJ3_checkIndex_8e157_6 rfl (fun _ => ?_) (fun c => absurd ((nI_ltI (by omega) (by omega)).mpr hj) c)
  refine v_iload_n (pc := 16) 0 g dJ3_checkIndex_8e157_16 rfl rfl ?_
  exact v_iret (pc := 17) g hret dJ3_checkIndex_8e157_17 ⟨rfl, rfl⟩
theorem c_chk0 (w : PW) (j n : Nat) (hj : j < n) (hn : n < 1000) : RunD 1 yJ0_checkIndex_df160 cJ0_checkIndex_df160 2 none [.int (nI j), .int (nI n)] w none w := by
  refine Runs.of (by decide) (Nat.le_of_ble_eq_true rfl) rfl ?_
  intro X g hret hnL
  refine v_iload_n (pc := 0) 0 g dJ0_checkIndex_df160_0 rfl rfl ?_
  refine v_iload_n (pc := 1) 1 g dJ0_checkIndex_df160_1 rfl rfl ?_
  refine v_gSF (pc := 2) g dJ0_checkIndex_df160_2 (fun v hv => ?_)
  refine v_cSd (pc := 5) g dJ0_checkIndex_df160_5 lk_J0_1059 (c_chk3 w j n v hv hj hn) (Nat.le_of_ble_eq_true rfl) rfl rfl (Nat.le_of_ble_eq_true rfl) ?_
  refine v_pop (pc := 8) g dJ0_checkIndex_df160_8 rfl ?_
  exact v_vret (pc := 9) g hret dJ0_checkIndex_df160_9 ⟨rfl, rfl⟩
theorem c_latAt (w : PW) (i j : Nat) (hi : i < 13) (hj : j < lnS i) : RunD 2 yJ1_charAt_3b067 cJ1_charAt_3b067 2 (some .char) [.ref (2000 + i), .int (nI j)] w (some (.int (chS i j))) w := by
  have h8 := lnS_lt i
  have key : ∀ i, i < 13 → ∀ j, j < lnS i → ((((chS i j) &&& 255).toUInt32 % 65536).toInt32) = chS i j ∧ narrow .char (.int (chS i j)) = .int (chS i j) := by decide +kernel
  refine Runs.of (by decide) (Nat.le_of_ble_eq_true rfl) rfl ?_
  intro X g hret hnL
  refine v_iload_n (pc := 0) 1 g dJ1_charAt_3b067_0 rfl rfl ?_
  refine v_aload_n (pc := 1) 0 g dJ1_charAt_3b067_1 rfl rfl ?_
  refine v_bLen (pc := 2) g dJ1_charAt_3b067_2 hi ?_
  refine v_cSd (pc := 3) g dJ1_charAt_3b067_3 lk_J1_9 (c_chk0 w j (lnS i) hj (by omega)) (Nat.le_of_ble_eq_true rfl) rfl rfl (Nat.le_of_ble_eq_true rfl) ?_
  refine v_aload_n (pc := 6) 0 g dJ1_charAt_3b067_6 rfl rfl ?_
  refine v_iload_n (pc := 7) 1 g dJ1_charAt_3b067_7 rfl rfl ?_
  refine v_bAld (pc := 8) j g dJ1_charAt_3b067_8 hi hj ?_
  refine v_sipush (pc := 9) (v := 255) g dJ1_charAt_3b067_9 (by decide) ?_
  refine v_iand (pc := 12) g dJ1_charAt_3b067_12 ?_
  refine v_i2c (pc := 13) g dJ1_charAt_3b067_13 ?_
  rw [(key i hi j hj).1]
  exact v_zret (pc := 14) g hret dJ1_charAt_3b067_14 (key i hi j hj).2 ⟨rfl, rfl⟩
theorem c_strAt (w : PW) (i j : Nat) (hi : i < 13) (hj : j < lnS i) : RunD 3 yJ0_charAt_5068e cJ0_charAt_5068e 2 (some .char) [.ref (1000 + i), .int (nI j)] w (some (.int (chS i j))) w := by
  have key : ∀ i, i < 13 → ∀ j, j < lnS i → narrow .char (.int (chS i j)) = .int (chS i j) := by decide +kernel
  refine Runs.of (by decide) (Nat.le_of_ble_eq_true rfl) rfl ?_
  intro X g hret hnL
  refine v_aload_n (pc := 0) 0 g dJ0_charAt_5068e_0 rfl rfl ?_
  refine v_cVs (pc := 1) g dJ0_charAt_5068e_1 lk_J0_492 (c_isLat w i hi) (Nat.le_of_ble_eq_true rfl) rfl rfl hi rfl (Nat.le_of_ble_eq_true rfl) ?_
  refine v_if_eq (pc := 4) 16 g dJ0_charAt_5068e_4 rfl (fun c => absurd c (by decide)) (fun _ => ?_)
  refine v_aload_n (pc := 7) 0 g dJ0_charAt_5068e_7 rfl rfl ?_
  refine v_sVal (pc := 8) g dJ0_charAt_5068e_8 hi ?_
  refine v_iload_n (pc := 11) 1 g dJ0_charAt_5068e_11 rfl rfl ?_
  refine v_cSd (pc := 12) g dJ0_charAt_5068e_12 lk_J0_495 (c_latAt w i j hi hj) (Nat.le_of_ble_eq_true rfl) rfl rfl (Nat.le_of_ble_eq_true rfl) ?_
  exact v_zret (pc := 15) g hret dJ0_charAt_5068e_15 (key i hi j hj) ⟨rfl, rfl⟩
