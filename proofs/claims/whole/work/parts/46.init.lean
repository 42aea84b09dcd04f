/-! ===== THE CONSTRUCTORS ===== -/
def zI : Nat → Int32 := fun _ => 0
def zJ : Nat → Int64 := fun _ => 0
def bkI (k : Nat) : Nat → Int32 := fun j => if j < k then 1 else 0
def St00 (dr : Int32) (k : Nat) : St := mkS 0 dr zI (bkI k) zI 0 zI zI zI zI zI zI
def St0 : St := St00 2 12
theorem bkI_up (k : Nat) : upd (bkI k) k 1 = bkI (k + 1) := by
  funext j
  unfold upd bkI
  by_cases e : j = k
  · rw [if_pos e, if_pos (by omega)]
  · rw [if_neg e]
    by_cases q : j < k
    · rw [if_pos q, if_pos (by omega)]
    · rw [if_neg q, if_neg (by omega)]
theorem bkI_0 : bkI 0 = zI := rfl
theorem row_0 : rowOf (St00 0 0) = zI := by
  refine row_ext (fun j hj => ?_) (fun a b ha hb => ?_) (fun i b hb => ?_)
  · rw [row_l _ hj]
    rcases (show j = 0 ∨ j = 1 ∨ j = 2 by omega) with rfl | rfl | rfl <;> rfl
  · rw [row_h _ ha hb]
    rcases (show b = 0 ∨ b = 1 ∨ b = 2 by omega) with rfl | rfl | rfl <;> rfl
  · rw [row_p _ _ hb]
    rcases (show b = 0 ∨ b = 1 ∨ b = 2 ∨ b = 3 ∨ b = 4 ∨ b = 5 by omega) with rfl | rfl | rfl | rfl | rfl | rfl <;> rfl
theorem Inv0 : Inv St0 := by
  refine ⟨by decide, by decide, fun h => ⟨by show inR 0 0 99; decide, ?_, by show inR 0 0 9999; decide⟩, fun i => ⟨by show inR 0 0 5; decide, by show inR 0 0 11; decide, by show inR 0 0 1; decide, by show inR 0 0 99; decide, by show inR 0 0 99; decide, by show inR 0 0 9999; decide⟩⟩
  show inR (if h < 12 then 1 else 0) 0 1
  split <;> decide
theorem wo_2 : Cond.instanceMethod Lib.objectInit ∈ tbG := tbG_in (List.mem_of_getElem? (i := 82) (by decide +kernel)) (by decide +kernel)
theorem wo_3 : Cond.code Lib.objectInit ⟨#[0xb1]⟩ 1 none ∈ tbG := tbG_in (List.mem_of_getElem? (i := 83) (by decide +kernel)) (by decide +kernel)
theorem wo_X2 : Cond.methodLink RX2 3 Lib.objectInit ∈ tbG := tbG_in (List.mem_of_getElem? (i := 156) (by decide +kernel)) (by decide +kernel)
theorem ff_X2_9 : FQ RX2 9 2 0 (.array .int) := ⟨RX2, TX2, 2, tyX2, cl_X2, by decide, rfl, rfl, fw_X2_9, rfl, by decide +kernel⟩
set_option maxRecDepth 20000 in
set_option maxHeartbeats 2000000 in
theorem c_X2_init : RunN 1 1 120 yX2_init cX2_init 1 ([.inr (2, [.null, .int 0])]) (tpW zI 0) := by
  refine RunN.of (by decide) rfl (by decide) rfl ?_
  intro X g q r hi hnL
  have hp : PN 1 1 120 (tpW zI 0) 1 X := ⟨r, hi, hnL⟩
  have hPg := PNg 1 1 120 (tpW zI 0) 1
  refine v_aload_n (pc := 0) 0 g dX2_init_0 rfl rfl ?_
  refine v_oinit (pc := 1) g dX2_init_1 wo_X2 wo_2 wo_3 (Nat.le_of_ble_eq_true rfl) (Nat.le_of_ble_eq_true rfl) ?_
  refine v_aload_n (pc := 4) 0 g dX2_init_4 rfl rfl ?_
  refine v_bipush (pc := 5) (v := 120) g dX2_init_5 (by decide) ?_
  refine n_newI hPg (pc := 7) 120 g q hp dX2_init_7 rfl (Nat.le_of_ble_eq_true rfl) rfl (Nat.le_of_ble_eq_true rfl) (Nat.le_of_ble_eq_true rfl) (Nat.le_of_ble_eq_true rfl) rfl rfl rfl (fun X g q hp => ?_)
  refine v_w ([.inr (2, [.null, .int 0]), .inl (120, .inl zI)]) rfl ?_
  refine v_putF (pc := 9) _ g hp.2.1 dX2_init_9 ff_X2_9 rfl (Nat.le_of_ble_eq_true rfl) (fun _ => rfl) (fun _ => rfl) rfl ?_
  refine v_w ([.inr (2, [.ref 1, .int 0]), .inl (120, .inl zI)]) rfl ?_
  refine v_aload_n (pc := 12) 0 g dX2_init_12 rfl rfl ?_
  refine v_iconst (pc := 13) (v := 0) g dX2_init_13 (by decide) ?_
  refine v_put (pc := 14) _ g dX2_init_14 fp_X2_15 rfl (Nat.le_of_ble_eq_true rfl) rfl rfl rfl rfl ?_
  refine v_w ([.inr (2, [.ref 1, .int 0]), .inl (120, .inl zI)]) rfl ?_
  refine v_w (tpW zI 0) rfl ?_
  exact v_nret (pc := 17) g q hp.1 dX2_init_17
theorem wo_X3 : Cond.methodLink RX3 3 Lib.objectInit ∈ tbG := tbG_in (List.mem_of_getElem? (i := 171) (by decide +kernel)) (by decide +kernel)
set_option maxRecDepth 20000 in
set_option maxHeartbeats 2000000 in
theorem c_X3_init : RunN 1 0 0 yX3_init cX3_init 1 ([.inr (3, [.int 0, .int 0, .int 0, .int 0, .int 0])]) ([.inr (3, [.int 0, .int 0, .int 0, .int 0, .int 0])]) := by
  refine RunN.of (by decide) rfl (by decide) rfl ?_
  intro X g q r hi hnL
  have hp : PN 1 0 0 ([.inr (3, [.int 0, .int 0, .int 0, .int 0, .int 0])]) 1 X := ⟨r, hi, hnL⟩
  have hPg := PNg 1 0 0 ([.inr (3, [.int 0, .int 0, .int 0, .int 0, .int 0])]) 1
  refine v_aload_n (pc := 0) 0 g dX3_init_0 rfl rfl ?_
  refine v_oinit (pc := 1) g dX3_init_1 wo_X3 wo_2 wo_3 (Nat.le_of_ble_eq_true rfl) (Nat.le_of_ble_eq_true rfl) ?_
  refine v_aload_n (pc := 4) 0 g dX3_init_4 rfl rfl ?_
  refine v_iconst (pc := 5) (v := 0) g dX3_init_5 (by decide) ?_
  refine v_put (pc := 6) _ g dX3_init_6 fp_X3_9 rfl (Nat.le_of_ble_eq_true rfl) rfl rfl rfl rfl ?_
  refine v_w ([.inr (3, [.int 0, .int 0, .int 0, .int 0, .int 0])]) rfl ?_
  refine v_aload_n (pc := 9) 0 g dX3_init_9 rfl rfl ?_
  refine v_iconst (pc := 10) (v := 0) g dX3_init_10 (by decide) ?_
  refine v_put (pc := 11) _ g dX3_init_11 fp_X3_15 rfl (Nat.le_of_ble_eq_true rfl) rfl rfl rfl rfl ?_
  refine v_w ([.inr (3, [.int 0, .int 0, .int 0, .int 0, .int 0])]) rfl ?_
  refine v_aload_n (pc := 14) 0 g dX3_init_14 rfl rfl ?_
  refine v_iconst (pc := 15) (v := 0) g dX3_init_15 (by decide) ?_
  refine v_put (pc := 16) _ g dX3_init_16 fp_X3_18 rfl (Nat.le_of_ble_eq_true rfl) rfl rfl rfl rfl ?_
  refine v_w ([.inr (3, [.int 0, .int 0, .int 0, .int 0, .int 0])]) rfl ?_
  refine v_aload_n (pc := 19) 0 g dX3_init_19 rfl rfl ?_
  refine v_iconst (pc := 20) (v := 0) g dX3_init_20 (by decide) ?_
  refine v_put (pc := 21) _ g dX3_init_21 fp_X3_21 rfl (Nat.le_of_ble_eq_true rfl) rfl rfl rfl rfl ?_
  refine v_w ([.inr (3, [.int 0, .int 0, .int 0, .int 0, .int 0])]) rfl ?_
  refine v_aload_n (pc := 24) 0 g dX3_init_24 rfl rfl ?_
  refine v_iconst (pc := 25) (v := 0) g dX3_init_25 (by decide) ?_
  refine v_put (pc := 26) _ g dX3_init_26 fp_X3_24 rfl (Nat.le_of_ble_eq_true rfl) rfl rfl rfl rfl ?_
  refine v_w ([.inr (3, [.int 0, .int 0, .int 0, .int 0, .int 0])]) rfl ?_
  exact v_nret (pc := 29) g q hp.1 dX3_init_29
theorem wo_X0 : Cond.methodLink RX0 3 Lib.objectInit ∈ tbG := tbG_in (List.mem_of_getElem? (i := 195) (by decide +kernel)) (by decide +kernel)
theorem ff_X0_9 : FQ RX0 9 0 0 (.array .int) := ⟨RX0, TX0, 3, tyX0, cl_X0, by decide, rfl, rfl, fw_X0_9, rfl, by decide +kernel⟩
theorem ff_X0_15 : FQ RX0 15 0 1 (.array .int) := ⟨RX0, TX0, 3, tyX0, cl_X0, by decide, rfl, rfl, fw_X0_15, rfl, by decide +kernel⟩
theorem ff_X0_18 : FQ RX0 18 0 2 (.array .long) := ⟨RX0, TX0, 3, tyX0, cl_X0, by decide, rfl, rfl, fw_X0_18, rfl, by decide +kernel⟩
set_option maxRecDepth 20000 in
set_option maxHeartbeats 2000000 in
theorem c_X0_init : RunN 1 3 168 yX0_init cX0_init 1 ([.inr (0, [.null, .null, .null])]) (shW zI zI zJ) := by
  refine RunN.of (by decide) rfl (by decide) rfl ?_
  intro X g q r hi hnL
  have hp : PN 1 3 168 (shW zI zI zJ) 1 X := ⟨r, hi, hnL⟩
  have hPg := PNg 1 3 168 (shW zI zI zJ) 1
  refine v_aload_n (pc := 0) 0 g dX0_init_0 rfl rfl ?_
  refine v_oinit (pc := 1) g dX0_init_1 wo_X0 wo_2 wo_3 (Nat.le_of_ble_eq_true rfl) (Nat.le_of_ble_eq_true rfl) ?_
  refine v_aload_n (pc := 4) 0 g dX0_init_4 rfl rfl ?_
  refine v_iconst (pc := 5) (v := 4) g dX0_init_5 (by decide) ?_
  refine n_newI hPg (pc := 6) 4 g q hp dX0_init_6 rfl (Nat.le_of_ble_eq_true rfl) rfl (Nat.le_of_ble_eq_true rfl) (Nat.le_of_ble_eq_true rfl) (Nat.le_of_ble_eq_true rfl) rfl rfl rfl (fun X g q hp => ?_)
  refine v_w ([.inr (0, [.null, .null, .null]), .inl (4, .inl zI)]) rfl ?_
  refine v_putF (pc := 8) _ g hp.2.1 dX0_init_8 ff_X0_9 rfl (Nat.le_of_ble_eq_true rfl) (fun _ => rfl) (fun _ => rfl) rfl ?_
  refine v_w ([.inr (0, [.ref 1, .null, .null]), .inl (4, .inl zI)]) rfl ?_
  refine v_aload_n (pc := 11) 0 g dX0_init_11 rfl rfl ?_
  refine v_iconst (pc := 12) (v := 4) g dX0_init_12 (by decide) ?_
  refine n_newI hPg (pc := 13) 4 g q hp dX0_init_13 rfl (Nat.le_of_ble_eq_true rfl) rfl (Nat.le_of_ble_eq_true rfl) (Nat.le_of_ble_eq_true rfl) (Nat.le_of_ble_eq_true rfl) rfl rfl rfl (fun X g q hp => ?_)
  refine v_w ([.inr (0, [.ref 1, .null, .null]), .inl (4, .inl zI), .inl (4, .inl zI)]) rfl ?_
  refine v_putF (pc := 15) _ g hp.2.1 dX0_init_15 ff_X0_15 rfl (Nat.le_of_ble_eq_true rfl) (fun _ => rfl) (fun _ => rfl) rfl ?_
  refine v_w ([.inr (0, [.ref 1, .ref 2, .null]), .inl (4, .inl zI), .inl (4, .inl zI)]) rfl ?_
  refine v_aload_n (pc := 18) 0 g dX0_init_18 rfl rfl ?_
  refine v_sipush (pc := 19) (v := 160) g dX0_init_19 (by decide) ?_
  refine n_newJ hPg (pc := 22) 160 g q hp dX0_init_22 rfl (Nat.le_of_ble_eq_true rfl) rfl (Nat.le_of_ble_eq_true rfl) (Nat.le_of_ble_eq_true rfl) (Nat.le_of_ble_eq_true rfl) rfl rfl rfl (fun X g q hp => ?_)
  refine v_w ([.inr (0, [.ref 1, .ref 2, .null]), .inl (4, .inl zI), .inl (4, .inl zI), .inl (160, .inr (.inl zJ))]) rfl ?_
  refine v_putF (pc := 24) _ g hp.2.1 dX0_init_24 ff_X0_18 rfl (Nat.le_of_ble_eq_true rfl) (fun _ => rfl) (fun _ => rfl) rfl ?_
  refine v_w ([.inr (0, [.ref 1, .ref 2, .ref 3]), .inl (4, .inl zI), .inl (4, .inl zI), .inl (160, .inr (.inl zJ))]) rfl ?_
  refine v_w (shW zI zI zJ) rfl ?_
  exact v_nret (pc := 27) g q hp.1 dX0_init_27
theorem wo_X1 : Cond.methodLink RX1 3 Lib.objectInit ∈ tbG := tbG_in (List.mem_of_getElem? (i := 89) (by decide +kernel)) (by decide +kernel)
theorem ff_X1_18 : FQ RX1 18 1 2 (.array .int) := ⟨RX1, TX1, 13, tyX1, cl_X1, by decide, rfl, rfl, fw_X1_18, rfl, by decide +kernel⟩
theorem ff_X1_22 : FQ RX1 22 1 3 (.array .int) := ⟨RX1, TX1, 13, tyX1, cl_X1, by decide, rfl, rfl, fw_X1_22, rfl, by decide +kernel⟩
theorem ff_X1_25 : FQ RX1 25 1 4 (.array .int) := ⟨RX1, TX1, 13, tyX1, cl_X1, by decide, rfl, rfl, fw_X1_25, rfl, by decide +kernel⟩
theorem ff_X1_31 : FQ RX1 31 1 6 (.array .int) := ⟨RX1, TX1, 13, tyX1, cl_X1, by decide, rfl, rfl, fw_X1_31, rfl, by decide +kernel⟩
theorem ff_X1_34 : FQ RX1 34 1 7 (.array .int) := ⟨RX1, TX1, 13, tyX1, cl_X1, by decide, rfl, rfl, fw_X1_34, rfl, by decide +kernel⟩
theorem ff_X1_37 : FQ RX1 37 1 8 (.array .int) := ⟨RX1, TX1, 13, tyX1, cl_X1, by decide, rfl, rfl, fw_X1_37, rfl, by decide +kernel⟩
theorem ff_X1_40 : FQ RX1 40 1 9 (.array .int) := ⟨RX1, TX1, 13, tyX1, cl_X1, by decide, rfl, rfl, fw_X1_40, rfl, by decide +kernel⟩
theorem ff_X1_43 : FQ RX1 43 1 10 (.array .int) := ⟨RX1, TX1, 13, tyX1, cl_X1, by decide, rfl, rfl, fw_X1_43, rfl, by decide +kernel⟩
theorem ff_X1_46 : FQ RX1 46 1 11 (.array .int) := ⟨RX1, TX1, 13, tyX1, cl_X1, by decide, rfl, rfl, fw_X1_46, rfl, by decide +kernel⟩
set_option maxRecDepth 20000 in
set_option maxHeartbeats 2000000 in
theorem c_X1_init : RunN 1 9 84 yX1_init cX1_init 2 ([.inr (1, [.int 0, .int 0, .null, .null, .null, .int 0, .null, .null, .null, .null, .null, .null, .int 0])]) (stW St0 0) := by
  refine RunN.of (by decide) rfl (by decide) rfl ?_
  intro X g q r hi hnL
  have hp : PN 1 9 84 (stW St0 0) 2 X := ⟨r, hi, hnL⟩
  have hPg := PNg 1 9 84 (stW St0 0) 2
  refine v_aload_n (pc := 0) 0 g dX1_init_0 rfl rfl ?_
  refine v_oinit (pc := 1) g dX1_init_1 wo_X1 wo_2 wo_3 (Nat.le_of_ble_eq_true rfl) (Nat.le_of_ble_eq_true rfl) ?_
  refine v_aload_n (pc := 4) 0 g dX1_init_4 rfl rfl ?_
  refine v_iconst (pc := 5) (v := 0) g dX1_init_5 (by decide) ?_
  refine v_put (pc := 6) _ g dX1_init_6 fp_X1_9 rfl (Nat.le_of_ble_eq_true rfl) rfl rfl rfl rfl ?_
  refine v_w ([.inr (1, [.int 0, .int 0, .null, .null, .null, .int 0, .null, .null, .null, .null, .null, .null, .int 0])]) rfl ?_
  refine v_aload_n (pc := 9) 0 g dX1_init_9 rfl rfl ?_
  refine v_iconst (pc := 10) (v := 2) g dX1_init_10 (by decide) ?_
  refine v_put (pc := 11) _ g dX1_init_11 fp_X1_15 rfl (Nat.le_of_ble_eq_true rfl) rfl rfl rfl rfl ?_
  refine v_w ([.inr (1, [.int 0, .int 2, .null, .null, .null, .int 0, .null, .null, .null, .null, .null, .null, .int 0])]) rfl ?_
  refine v_aload_n (pc := 14) 0 g dX1_init_14 rfl rfl ?_
  refine v_bipush (pc := 15) (v := 12) g dX1_init_15 (by decide) ?_
  refine n_newI hPg (pc := 17) 12 g q hp dX1_init_17 rfl (Nat.le_of_ble_eq_true rfl) rfl (Nat.le_of_ble_eq_true rfl) (Nat.le_of_ble_eq_true rfl) (Nat.le_of_ble_eq_true rfl) rfl rfl rfl (fun X g q hp => ?_)
  refine v_w ([.inr (1, [.int 0, .int 2, .null, .null, .null, .int 0, .null, .null, .null, .null, .null, .null, .int 0]), .inl (12, .inl zI)]) rfl ?_
  refine v_putF (pc := 19) _ g hp.2.1 dX1_init_19 ff_X1_18 rfl (Nat.le_of_ble_eq_true rfl) (fun _ => rfl) (fun _ => rfl) rfl ?_
  refine v_w ([.inr (1, [.int 0, .int 2, .ref 1, .null, .null, .int 0, .null, .null, .null, .null, .null, .null, .int 0]), .inl (12, .inl zI)]) rfl ?_
  refine v_aload_n (pc := 22) 0 g dX1_init_22 rfl rfl ?_
  refine v_bipush (pc := 23) (v := 12) g dX1_init_23 (by decide) ?_
  refine n_newI hPg (pc := 25) 12 g q hp dX1_init_25 rfl (Nat.le_of_ble_eq_true rfl) rfl (Nat.le_of_ble_eq_true rfl) (Nat.le_of_ble_eq_true rfl) (Nat.le_of_ble_eq_true rfl) rfl rfl rfl (fun X g q hp => ?_)
  refine v_w ([.inr (1, [.int 0, .int 2, .ref 1, .null, .null, .int 0, .null, .null, .null, .null, .null, .null, .int 0]), .inl (12, .inl zI), .inl (12, .inl zI)]) rfl ?_
  refine v_putF (pc := 27) _ g hp.2.1 dX1_init_27 ff_X1_22 rfl (Nat.le_of_ble_eq_true rfl) (fun _ => rfl) (fun _ => rfl) rfl ?_
  refine v_w ([.inr (1, [.int 0, .int 2, .ref 1, .ref 2, .null, .int 0, .null, .null, .null, .null, .null, .null, .int 0]), .inl (12, .inl zI), .inl (12, .inl zI)]) rfl ?_
  refine v_aload_n (pc := 30) 0 g dX1_init_30 rfl rfl ?_
  refine v_bipush (pc := 31) (v := 12) g dX1_init_31 (by decide) ?_
  refine n_newI hPg (pc := 33) 12 g q hp dX1_init_33 rfl (Nat.le_of_ble_eq_true rfl) rfl (Nat.le_of_ble_eq_true rfl) (Nat.le_of_ble_eq_true rfl) (Nat.le_of_ble_eq_true rfl) rfl rfl rfl (fun X g q hp => ?_)
  refine v_w ([.inr (1, [.int 0, .int 2, .ref 1, .ref 2, .null, .int 0, .null, .null, .null, .null, .null, .null, .int 0]), .inl (12, .inl zI), .inl (12, .inl zI), .inl (12, .inl zI)]) rfl ?_
  refine v_putF (pc := 35) _ g hp.2.1 dX1_init_35 ff_X1_25 rfl (Nat.le_of_ble_eq_true rfl) (fun _ => rfl) (fun _ => rfl) rfl ?_
  refine v_w ([.inr (1, [.int 0, .int 2, .ref 1, .ref 2, .ref 3, .int 0, .null, .null, .null, .null, .null, .null, .int 0]), .inl (12, .inl zI), .inl (12, .inl zI), .inl (12, .inl zI)]) rfl ?_
  refine v_aload_n (pc := 38) 0 g dX1_init_38 rfl rfl ?_
  refine v_iconst (pc := 39) (v := 0) g dX1_init_39 (by decide) ?_
  refine v_put (pc := 40) _ g dX1_init_40 fp_X1_28 rfl (Nat.le_of_ble_eq_true rfl) rfl rfl rfl rfl ?_
  refine v_w ([.inr (1, [.int 0, .int 2, .ref 1, .ref 2, .ref 3, .int 0, .null, .null, .null, .null, .null, .null, .int 0]), .inl (12, .inl zI), .inl (12, .inl zI), .inl (12, .inl zI)]) rfl ?_
  refine v_aload_n (pc := 43) 0 g dX1_init_43 rfl rfl ?_
  refine v_bipush (pc := 44) (v := 8) g dX1_init_44 (by decide) ?_
  refine n_newI hPg (pc := 46) 8 g q hp dX1_init_46 rfl (Nat.le_of_ble_eq_true rfl) rfl (Nat.le_of_ble_eq_true rfl) (Nat.le_of_ble_eq_true rfl) (Nat.le_of_ble_eq_true rfl) rfl rfl rfl (fun X g q hp => ?_)
  refine v_w ([.inr (1, [.int 0, .int 2, .ref 1, .ref 2, .ref 3, .int 0, .null, .null, .null, .null, .null, .null, .int 0]), .inl (12, .inl zI), .inl (12, .inl zI), .inl (12, .inl zI), .inl (8, .inl zI)]) rfl ?_
  refine v_putF (pc := 48) _ g hp.2.1 dX1_init_48 ff_X1_31 rfl (Nat.le_of_ble_eq_true rfl) (fun _ => rfl) (fun _ => rfl) rfl ?_
  refine v_w ([.inr (1, [.int 0, .int 2, .ref 1, .ref 2, .ref 3, .int 0, .ref 4, .null, .null, .null, .null, .null, .int 0]), .inl (12, .inl zI), .inl (12, .inl zI), .inl (12, .inl zI), .inl (8, .inl zI)]) rfl ?_
  refine v_aload_n (pc := 51) 0 g dX1_init_51 rfl rfl ?_
  refine v_bipush (pc := 52) (v := 8) g dX1_init_52 (by decide) ?_
  refine n_newI hPg (pc := 54) 8 g q hp dX1_init_54 rfl (Nat.le_of_ble_eq_true rfl) rfl (Nat.le_of_ble_eq_true rfl) (Nat.le_of_ble_eq_true rfl) (Nat.le_of_ble_eq_true rfl) rfl rfl rfl (fun X g q hp => ?_)
  refine v_w ([.inr (1, [.int 0, .int 2, .ref 1, .ref 2, .ref 3, .int 0, .ref 4, .null, .null, .null, .null, .null, .int 0]), .inl (12, .inl zI), .inl (12, .inl zI), .inl (12, .inl zI), .inl (8, .inl zI), .inl (8, .inl zI)]) rfl ?_
  refine v_putF (pc := 56) _ g hp.2.1 dX1_init_56 ff_X1_34 rfl (Nat.le_of_ble_eq_true rfl) (fun _ => rfl) (fun _ => rfl) rfl ?_
  refine v_w ([.inr (1, [.int 0, .int 2, .ref 1, .ref 2, .ref 3, .int 0, .ref 4, .ref 5, .null, .null, .null, .null, .int 0]), .inl (12, .inl zI), .inl (12, .inl zI), .inl (12, .inl zI), .inl (8, .inl zI), .inl (8, .inl zI)]) rfl ?_
  refine v_aload_n (pc := 59) 0 g dX1_init_59 rfl rfl ?_
  refine v_bipush (pc := 60) (v := 8) g dX1_init_60 (by decide) ?_
  refine n_newI hPg (pc := 62) 8 g q hp dX1_init_62 rfl (Nat.le_of_ble_eq_true rfl) rfl (Nat.le_of_ble_eq_true rfl) (Nat.le_of_ble_eq_true rfl) (Nat.le_of_ble_eq_true rfl) rfl rfl rfl (fun X g q hp => ?_)
  refine v_w ([.inr (1, [.int 0, .int 2, .ref 1, .ref 2, .ref 3, .int 0, .ref 4, .ref 5, .null, .null, .null, .null, .int 0]), .inl (12, .inl zI), .inl (12, .inl zI), .inl (12, .inl zI), .inl (8, .inl zI), .inl (8, .inl zI), .inl (8, .inl zI)]) rfl ?_
  refine v_putF (pc := 64) _ g hp.2.1 dX1_init_64 ff_X1_37 rfl (Nat.le_of_ble_eq_true rfl) (fun _ => rfl) (fun _ => rfl) rfl ?_
  refine v_w ([.inr (1, [.int 0, .int 2, .ref 1, .ref 2, .ref 3, .int 0, .ref 4, .ref 5, .ref 6, .null, .null, .null, .int 0]), .inl (12, .inl zI), .inl (12, .inl zI), .inl (12, .inl zI), .inl (8, .inl zI), .inl (8, .inl zI), .inl (8, .inl zI)]) rfl ?_
  refine v_aload_n (pc := 67) 0 g dX1_init_67 rfl rfl ?_
  refine v_bipush (pc := 68) (v := 8) g dX1_init_68 (by decide) ?_
  refine n_newI hPg (pc := 70) 8 g q hp dX1_init_70 rfl (Nat.le_of_ble_eq_true rfl) rfl (Nat.le_of_ble_eq_true rfl) (Nat.le_of_ble_eq_true rfl) (Nat.le_of_ble_eq_true rfl) rfl rfl rfl (fun X g q hp => ?_)
  refine v_w ([.inr (1, [.int 0, .int 2, .ref 1, .ref 2, .ref 3, .int 0, .ref 4, .ref 5, .ref 6, .null, .null, .null, .int 0]), .inl (12, .inl zI), .inl (12, .inl zI), .inl (12, .inl zI), .inl (8, .inl zI), .inl (8, .inl zI), .inl (8, .inl zI), .inl (8, .inl zI)]) rfl ?_
  refine v_putF (pc := 72) _ g hp.2.1 dX1_init_72 ff_X1_40 rfl (Nat.le_of_ble_eq_true rfl) (fun _ => rfl) (fun _ => rfl) rfl ?_
  refine v_w ([.inr (1, [.int 0, .int 2, .ref 1, .ref 2, .ref 3, .int 0, .ref 4, .ref 5, .ref 6, .ref 7, .null, .null, .int 0]), .inl (12, .inl zI), .inl (12, .inl zI), .inl (12, .inl zI), .inl (8, .inl zI), .inl (8, .inl zI), .inl (8, .inl zI), .inl (8, .inl zI)]) rfl ?_
  refine v_aload_n (pc := 75) 0 g dX1_init_75 rfl rfl ?_
  refine v_bipush (pc := 76) (v := 8) g dX1_init_76 (by decide) ?_
  refine n_newI hPg (pc := 78) 8 g q hp dX1_init_78 rfl (Nat.le_of_ble_eq_true rfl) rfl (Nat.le_of_ble_eq_true rfl) (Nat.le_of_ble_eq_true rfl) (Nat.le_of_ble_eq_true rfl) rfl rfl rfl (fun X g q hp => ?_)
  refine v_w ([.inr (1, [.int 0, .int 2, .ref 1, .ref 2, .ref 3, .int 0, .ref 4, .ref 5, .ref 6, .ref 7, .null, .null, .int 0]), .inl (12, .inl zI), .inl (12, .inl zI), .inl (12, .inl zI), .inl (8, .inl zI), .inl (8, .inl zI), .inl (8, .inl zI), .inl (8, .inl zI), .inl (8, .inl zI)]) rfl ?_
  refine v_putF (pc := 80) _ g hp.2.1 dX1_init_80 ff_X1_43 rfl (Nat.le_of_ble_eq_true rfl) (fun _ => rfl) (fun _ => rfl) rfl ?_
  refine v_w ([.inr (1, [.int 0, .int 2, .ref 1, .ref 2, .ref 3, .int 0, .ref 4, .ref 5, .ref 6, .ref 7, .ref 8, .null, .int 0]), .inl (12, .inl zI), .inl (12, .inl zI), .inl (12, .inl zI), .inl (8, .inl zI), .inl (8, .inl zI), .inl (8, .inl zI), .inl (8, .inl zI), .inl (8, .inl zI)]) rfl ?_
  refine v_aload_n (pc := 83) 0 g dX1_init_83 rfl rfl ?_
  refine v_bipush (pc := 84) (v := 8) g dX1_init_84 (by decide) ?_
  refine n_newI hPg (pc := 86) 8 g q hp dX1_init_86 rfl (Nat.le_of_ble_eq_true rfl) rfl (Nat.le_of_ble_eq_true rfl) (Nat.le_of_ble_eq_true rfl) (Nat.le_of_ble_eq_true rfl) rfl rfl rfl (fun X g q hp => ?_)
  refine v_w ([.inr (1, [.int 0, .int 2, .ref 1, .ref 2, .ref 3, .int 0, .ref 4, .ref 5, .ref 6, .ref 7, .ref 8, .null, .int 0]), .inl (12, .inl zI), .inl (12, .inl zI), .inl (12, .inl zI), .inl (8, .inl zI), .inl (8, .inl zI), .inl (8, .inl zI), .inl (8, .inl zI), .inl (8, .inl zI), .inl (8, .inl zI)]) rfl ?_
  refine v_putF (pc := 88) _ g hp.2.1 dX1_init_88 ff_X1_46 rfl (Nat.le_of_ble_eq_true rfl) (fun _ => rfl) (fun _ => rfl) rfl ?_
  refine v_w ([.inr (1, [.int 0, .int 2, .ref 1, .ref 2, .ref 3, .int 0, .ref 4, .ref 5, .ref 6, .ref 7, .ref 8, .ref 9, .int 0]), .inl (12, .inl zI), .inl (12, .inl zI), .inl (12, .inl zI), .inl (8, .inl zI), .inl (8, .inl zI), .inl (8, .inl zI), .inl (8, .inl zI), .inl (8, .inl zI), .inl (8, .inl zI)]) rfl ?_
  refine v_aload_n (pc := 91) 0 g dX1_init_91 rfl rfl ?_
  refine v_iconst (pc := 92) (v := 0) g dX1_init_92 (by decide) ?_
  refine v_put (pc := 93) _ g dX1_init_93 fp_X1_49 rfl (Nat.le_of_ble_eq_true rfl) rfl rfl rfl rfl ?_
  refine v_w ([.inr (1, [.int 0, .int 2, .ref 1, .ref 2, .ref 3, .int 0, .ref 4, .ref 5, .ref 6, .ref 7, .ref 8, .ref 9, .int 0]), .inl (12, .inl zI), .inl (12, .inl zI), .inl (12, .inl zI), .inl (8, .inl zI), .inl (8, .inl zI), .inl (8, .inl zI), .inl (8, .inl zI), .inl (8, .inl zI), .inl (8, .inl zI)]) rfl ?_
  have hnL := hp.2.2
  refine v_iconst (pc := 96) (v := 0) g dX1_init_96 (by decide) ?_
  refine v_istore_n (pc := 97) 1 _ g dX1_init_97 rfl (Nat.le_of_ble_eq_true rfl) hnL.symm rfl ?_
  have L98 : ∀ (fu k : Nat), k ≤ 12 → 12 - k < fu → V X 98 [some (.ref 0), some (.int (nI k))] [] (stW (St00 2 k) 0) := by
    intro fu
    induction fu with
    | zero => intro k hk hm; exact absurd hm (Nat.not_lt_zero _)
    | succ fu ih =>
      intro k hk hm
      refine v_iload_n (pc := 98) 1 g dX1_init_98 rfl rfl ?_
      refine v_bipush (pc := 99) (v := 12) g dX1_init_99 (by decide) ?_
      refine v_icmp_ge (pc := 101) 117 g dX1_init_101 rfl (fun c101 => ?_) (fun c101 => ?_)
      · have e101 : k = 12 := ge_t (n := 12) rfl hk (by omega) c101
        subst e101
        exact v_nret (pc := 117) g q hp.1 dX1_init_117
      · have e101 : k < 12 := ge_f (n := 12) rfl hk (by omega) c101
        refine v_aload_n (pc := 104) 0 g dX1_init_104 rfl rfl ?_
        refine v_get (pc := 105) g dX1_init_105 fl_X1_22 rfl rfl ?_
        refine v_iload_n (pc := 108) 1 g dX1_init_108 rfl rfl ?_
        refine v_iconst (pc := 109) (v := 1) g dX1_init_109 (by decide) ?_
        refine v_iastN (pc := 110) _ _ g dX1_init_110 rfl rfl e101 (Nat.le_of_ble_eq_true rfl) rfl ?_
        refine v_w (stW (St00 2 (k + 1)) 0) (by unfold St00; rw [← bkI_up]; rfl) ?_
        refine v_iincN (pc := 111) g dX1_init_111 rfl hnL.symm ?_
        refine v_goto (pc := 114) 98 g dX1_init_114 rfl ?_
        exact ih (k + 1) (by omega) (by omega)
  refine v_w (stW (St00 2 0) 0) rfl ?_
  exact L98 13 0 (Nat.zero_le _) (by omega)
theorem wo_X4 : Cond.methodLink RX4 1 Lib.objectInit ∈ tbG := tbG_in (List.mem_of_getElem? (i := 81) (by decide +kernel)) (by decide +kernel)
theorem nw_X4_7 : NW RX4 7 1 13 [.int 0, .int 0, .null, .null, .null, .int 0, .null, .null, .null, .null, .null, .null, .int 0] := ⟨RX1, TX1, tyX1, cl_X1, tbG_in (List.mem_of_getElem? (i := 84) (by decide +kernel)) (by decide +kernel), tbG_in (List.mem_of_getElem? (i := 85) (by decide +kernel)) (by decide +kernel), tbG_in (List.mem_of_getElem? (i := 65) (by decide +kernel)) (by decide +kernel), fun j hj => by match j, hj with
  | 0, _ => rfl
  | 1, _ => rfl
  | 2, _ => rfl
  | 3, _ => rfl
  | 4, _ => rfl
  | 5, _ => rfl
  | 6, _ => rfl
  | 7, _ => rfl
  | 8, _ => rfl
  | 9, _ => rfl
  | 10, _ => rfl
  | 11, _ => rfl
  | 12, _ => rfl
  | j + 13, hj => exact absurd hj (by omega), rfl⟩
theorem li_X4_9 : LI RX4 9 yX1_init cX1_init 2 := ⟨⟨tbG_in (List.mem_of_getElem? (i := 65) (by decide +kernel)) (by decide +kernel), tbG_in (List.mem_of_getElem? (i := 88) (by decide +kernel)) (by decide +kernel), by decide, by decide, by decide +kernel, by decide⟩, tbG_in (List.mem_of_getElem? (i := 86) (by decide +kernel)) (by decide +kernel), tbG_in (List.mem_of_getElem? (i := 87) (by decide +kernel)) (by decide +kernel), rfl⟩
theorem ff_X4_10 : FQ RX4 10 4 0 (.object "SneezeLights$Street") := ⟨RX4, TX4, 8, tyX4, cl_X4, by decide, rfl, rfl, fw_X4_10, rfl, by decide +kernel⟩
theorem ff_X4_16 : FQ RX4 16 4 1 (.object "SneezeLights$Street") := ⟨RX4, TX4, 8, tyX4, cl_X4, by decide, rfl, rfl, fw_X4_16, rfl, by decide +kernel⟩
theorem ff_X4_19 : FQ RX4 19 4 2 (.object "SneezeLights$Street") := ⟨RX4, TX4, 8, tyX4, cl_X4, by decide, rfl, rfl, fw_X4_19, rfl, by decide +kernel⟩
theorem nw_X4_22 : NW RX4 22 2 2 [.null, .int 0] := ⟨RX2, TX2, tyX2, cl_X2, tbG_in (List.mem_of_getElem? (i := 151) (by decide +kernel)) (by decide +kernel), tbG_in (List.mem_of_getElem? (i := 152) (by decide +kernel)) (by decide +kernel), tbG_in (List.mem_of_getElem? (i := 66) (by decide +kernel)) (by decide +kernel), fun j hj => by match j, hj with
  | 0, _ => rfl
  | 1, _ => rfl
  | j + 2, hj => exact absurd hj (by omega), rfl⟩
theorem li_X4_24 : LIN RX4 24 yX2_init cX2_init 1 := ⟨⟨tbG_in (List.mem_of_getElem? (i := 66) (by decide +kernel)) (by decide +kernel), tbG_in (List.mem_of_getElem? (i := 155) (by decide +kernel)) (by decide +kernel), by decide, by decide, by decide +kernel, by decide⟩, by decide, tbG_in (List.mem_of_getElem? (i := 154) (by decide +kernel)) (by decide +kernel), rfl⟩
theorem ff_X4_25 : FQ RX4 25 4 3 (.object "SneezeLights$Tape") := ⟨RX4, TX4, 8, tyX4, cl_X4, by decide, rfl, rfl, fw_X4_25, rfl, by decide +kernel⟩
theorem nw_X4_29 : NW RX4 29 3 5 [.int 0, .int 0, .int 0, .int 0, .int 0] := ⟨RX3, TX3, tyX3, cl_X3, tbG_in (List.mem_of_getElem? (i := 166) (by decide +kernel)) (by decide +kernel), tbG_in (List.mem_of_getElem? (i := 167) (by decide +kernel)) (by decide +kernel), tbG_in (List.mem_of_getElem? (i := 67) (by decide +kernel)) (by decide +kernel), fun j hj => by match j, hj with
  | 0, _ => rfl
  | 1, _ => rfl
  | 2, _ => rfl
  | 3, _ => rfl
  | 4, _ => rfl
  | j + 5, hj => exact absurd hj (by omega), rfl⟩
theorem li_X4_31 : LIN RX4 31 yX3_init cX3_init 1 := ⟨⟨tbG_in (List.mem_of_getElem? (i := 67) (by decide +kernel)) (by decide +kernel), tbG_in (List.mem_of_getElem? (i := 170) (by decide +kernel)) (by decide +kernel), by decide, by decide, by decide +kernel, by decide⟩, by decide, tbG_in (List.mem_of_getElem? (i := 169) (by decide +kernel)) (by decide +kernel), rfl⟩
theorem ff_X4_32 : FQ RX4 32 4 4 (.object "SneezeLights$Winter") := ⟨RX4, TX4, 8, tyX4, cl_X4, by decide, rfl, rfl, fw_X4_32, rfl, by decide +kernel⟩
theorem nw_X4_36 : NW RX4 36 0 3 [.null, .null, .null] := ⟨RX0, TX0, tyX0, cl_X0, tbG_in (List.mem_of_getElem? (i := 190) (by decide +kernel)) (by decide +kernel), tbG_in (List.mem_of_getElem? (i := 191) (by decide +kernel)) (by decide +kernel), tbG_in (List.mem_of_getElem? (i := 68) (by decide +kernel)) (by decide +kernel), fun j hj => by match j, hj with
  | 0, _ => rfl
  | 1, _ => rfl
  | 2, _ => rfl
  | j + 3, hj => exact absurd hj (by omega), rfl⟩
theorem li_X4_38 : LIN RX4 38 yX0_init cX0_init 1 := ⟨⟨tbG_in (List.mem_of_getElem? (i := 68) (by decide +kernel)) (by decide +kernel), tbG_in (List.mem_of_getElem? (i := 194) (by decide +kernel)) (by decide +kernel), by decide, by decide, by decide +kernel, by decide⟩, by decide, tbG_in (List.mem_of_getElem? (i := 193) (by decide +kernel)) (by decide +kernel), rfl⟩
theorem ff_X4_39 : FQ RX4 39 4 5 (.object "SneezeLights$Sheets") := ⟨RX4, TX4, 8, tyX4, cl_X4, by decide, rfl, rfl, fw_X4_39, rfl, by decide +kernel⟩
theorem ff_X4_43 : FQ RX4 43 4 6 (.array .int) := ⟨RX4, TX4, 8, tyX4, cl_X4, by decide, rfl, rfl, fw_X4_43, rfl, by decide +kernel⟩
set_option maxRecDepth 20000 in
set_option maxHeartbeats 2000000 in
theorem c_X4_init : RunN 2 38 596 yX4_init cX4_init 1 ([.inr (4, [.null, .null, .null, .null, .null, .null, .null, .int 0])]) (xW St0 0 St0 0 St0 0 zI 0 0 0 0 0 0 zI zI zJ zI 0) := by
  refine RunN.of (by decide) rfl (by decide) rfl ?_
  intro X g q r hi hnL
  have hp : PN 1 38 596 (xW St0 0 St0 0 St0 0 zI 0 0 0 0 0 0 zI zI zJ zI 0) 1 X := ⟨r, hi, hnL⟩
  have hPg := PNg 1 38 596 (xW St0 0 St0 0 St0 0 zI 0 0 0 0 0 0 zI zI zJ zI 0) 1
  refine v_aload_n (pc := 0) 0 g dX4_init_0 rfl rfl ?_
  refine v_oinit (pc := 1) g dX4_init_1 wo_X4 wo_2 wo_3 (Nat.le_of_ble_eq_true rfl) (Nat.le_of_ble_eq_true rfl) ?_
  refine v_aload_n (pc := 4) 0 g dX4_init_4 rfl rfl ?_
  refine n_newO hPg (pc := 5) _ g q hp dX4_init_5 nw_X4_7 rfl (Nat.le_of_ble_eq_true rfl) (Nat.le_of_ble_eq_true rfl) (Nat.le_of_ble_eq_true rfl) rfl rfl rfl rfl (fun X g q hp => ?_)
  refine v_w ([.inr (4, [.null, .null, .null, .null, .null, .null, .null, .int 0]), .inr (1, [.int 0, .int 0, .null, .null, .null, .int 0, .null, .null, .null, .null, .null, .null, .int 0])]) rfl ?_
  refine v_dup (pc := 8) g dX4_init_8 rfl ?_
  refine n_cI hPg (pc := 9) ([.inr (4, [.null, .null, .null, .null, .null, .null, .null, .int 0]), .inr (1, [.int 0, .int 2, .ref 2, .ref 3, .ref 4, .int 0, .ref 5, .ref 6, .ref 7, .ref 8, .ref 9, .ref 10, .int 0]), .inl (12, .inl zI), .inl (12, .inl (bkI 12)), .inl (12, .inl zI), .inl (8, .inl zI), .inl (8, .inl zI), .inl (8, .inl zI), .inl (8, .inl zI), .inl (8, .inl zI), .inl (8, .inl zI)]) g q hp dX4_init_9 li_X4_9 c_X1_init (Nat.le_of_ble_eq_true rfl) rfl rfl (hp.1.fr q (Nat.le_of_ble_eq_true rfl) (Nat.le_of_ble_eq_true rfl)) rfl (Nat.le_of_ble_eq_true rfl) (Nat.le_of_ble_eq_true rfl) (Nat.le_of_ble_eq_true rfl) (Nat.le_of_ble_eq_true rfl) rfl rfl rfl rfl (Nat.le_of_ble_eq_true rfl) rfl (fun X g q hp => ?_)
  refine v_putF (pc := 12) _ g hp.2.1 dX4_init_12 ff_X4_10 rfl (Nat.le_of_ble_eq_true rfl) (fun _ => rfl) (fun _ => rfl) rfl ?_
  refine v_w ([.inr (4, [.ref 1, .null, .null, .null, .null, .null, .null, .int 0]), .inr (1, [.int 0, .int 2, .ref 2, .ref 3, .ref 4, .int 0, .ref 5, .ref 6, .ref 7, .ref 8, .ref 9, .ref 10, .int 0]), .inl (12, .inl zI), .inl (12, .inl (bkI 12)), .inl (12, .inl zI), .inl (8, .inl zI), .inl (8, .inl zI), .inl (8, .inl zI), .inl (8, .inl zI), .inl (8, .inl zI), .inl (8, .inl zI)]) rfl ?_
  refine v_aload_n (pc := 15) 0 g dX4_init_15 rfl rfl ?_
  refine n_newO hPg (pc := 16) _ g q hp dX4_init_16 nw_X4_7 rfl (Nat.le_of_ble_eq_true rfl) (Nat.le_of_ble_eq_true rfl) (Nat.le_of_ble_eq_true rfl) rfl rfl rfl rfl (fun X g q hp => ?_)
  refine v_w ([.inr (4, [.ref 1, .null, .null, .null, .null, .null, .null, .int 0]), .inr (1, [.int 0, .int 2, .ref 2, .ref 3, .ref 4, .int 0, .ref 5, .ref 6, .ref 7, .ref 8, .ref 9, .ref 10, .int 0]), .inl (12, .inl zI), .inl (12, .inl (bkI 12)), .inl (12, .inl zI), .inl (8, .inl zI), .inl (8, .inl zI), .inl (8, .inl zI), .inl (8, .inl zI), .inl (8, .inl zI), .inl (8, .inl zI), .inr (1, [.int 0, .int 0, .null, .null, .null, .int 0, .null, .null, .null, .null, .null, .null, .int 0])]) rfl ?_
  refine v_dup (pc := 19) g dX4_init_19 rfl ?_
  refine n_cI hPg (pc := 20) ([.inr (4, [.ref 1, .null, .null, .null, .null, .null, .null, .int 0]), .inr (1, [.int 0, .int 2, .ref 2, .ref 3, .ref 4, .int 0, .ref 5, .ref 6, .ref 7, .ref 8, .ref 9, .ref 10, .int 0]), .inl (12, .inl zI), .inl (12, .inl (bkI 12)), .inl (12, .inl zI), .inl (8, .inl zI), .inl (8, .inl zI), .inl (8, .inl zI), .inl (8, .inl zI), .inl (8, .inl zI), .inl (8, .inl zI), .inr (1, [.int 0, .int 2, .ref 12, .ref 13, .ref 14, .int 0, .ref 15, .ref 16, .ref 17, .ref 18, .ref 19, .ref 20, .int 0]), .inl (12, .inl zI), .inl (12, .inl (bkI 12)), .inl (12, .inl zI), .inl (8, .inl zI), .inl (8, .inl zI), .inl (8, .inl zI), .inl (8, .inl zI), .inl (8, .inl zI), .inl (8, .inl zI)]) g q hp dX4_init_20 li_X4_9 c_X1_init (Nat.le_of_ble_eq_true rfl) rfl rfl (hp.1.fr q (Nat.le_of_ble_eq_true rfl) (Nat.le_of_ble_eq_true rfl)) rfl (Nat.le_of_ble_eq_true rfl) (Nat.le_of_ble_eq_true rfl) (Nat.le_of_ble_eq_true rfl) (Nat.le_of_ble_eq_true rfl) rfl rfl rfl rfl (Nat.le_of_ble_eq_true rfl) rfl (fun X g q hp => ?_)
  refine v_putF (pc := 23) _ g hp.2.1 dX4_init_23 ff_X4_16 rfl (Nat.le_of_ble_eq_true rfl) (fun _ => rfl) (fun _ => rfl) rfl ?_
  refine v_w ([.inr (4, [.ref 1, .ref 11, .null, .null, .null, .null, .null, .int 0]), .inr (1, [.int 0, .int 2, .ref 2, .ref 3, .ref 4, .int 0, .ref 5, .ref 6, .ref 7, .ref 8, .ref 9, .ref 10, .int 0]), .inl (12, .inl zI), .inl (12, .inl (bkI 12)), .inl (12, .inl zI), .inl (8, .inl zI), .inl (8, .inl zI), .inl (8, .inl zI), .inl (8, .inl zI), .inl (8, .inl zI), .inl (8, .inl zI), .inr (1, [.int 0, .int 2, .ref 12, .ref 13, .ref 14, .int 0, .ref 15, .ref 16, .ref 17, .ref 18, .ref 19, .ref 20, .int 0]), .inl (12, .inl zI), .inl (12, .inl (bkI 12)), .inl (12, .inl zI), .inl (8, .inl zI), .inl (8, .inl zI), .inl (8, .inl zI), .inl (8, .inl zI), .inl (8, .inl zI), .inl (8, .inl zI)]) rfl ?_
  refine v_aload_n (pc := 26) 0 g dX4_init_26 rfl rfl ?_
  refine n_newO hPg (pc := 27) _ g q hp dX4_init_27 nw_X4_7 rfl (Nat.le_of_ble_eq_true rfl) (Nat.le_of_ble_eq_true rfl) (Nat.le_of_ble_eq_true rfl) rfl rfl rfl rfl (fun X g q hp => ?_)
  refine v_w ([.inr (4, [.ref 1, .ref 11, .null, .null, .null, .null, .null, .int 0]), .inr (1, [.int 0, .int 2, .ref 2, .ref 3, .ref 4, .int 0, .ref 5, .ref 6, .ref 7, .ref 8, .ref 9, .ref 10, .int 0]), .inl (12, .inl zI), .inl (12, .inl (bkI 12)), .inl (12, .inl zI), .inl (8, .inl zI), .inl (8, .inl zI), .inl (8, .inl zI), .inl (8, .inl zI), .inl (8, .inl zI), .inl (8, .inl zI), .inr (1, [.int 0, .int 2, .ref 12, .ref 13, .ref 14, .int 0, .ref 15, .ref 16, .ref 17, .ref 18, .ref 19, .ref 20, .int 0]), .inl (12, .inl zI), .inl (12, .inl (bkI 12)), .inl (12, .inl zI), .inl (8, .inl zI), .inl (8, .inl zI), .inl (8, .inl zI), .inl (8, .inl zI), .inl (8, .inl zI), .inl (8, .inl zI), .inr (1, [.int 0, .int 0, .null, .null, .null, .int 0, .null, .null, .null, .null, .null, .null, .int 0])]) rfl ?_
  refine v_dup (pc := 30) g dX4_init_30 rfl ?_
  refine n_cI hPg (pc := 31) ([.inr (4, [.ref 1, .ref 11, .null, .null, .null, .null, .null, .int 0]), .inr (1, [.int 0, .int 2, .ref 2, .ref 3, .ref 4, .int 0, .ref 5, .ref 6, .ref 7, .ref 8, .ref 9, .ref 10, .int 0]), .inl (12, .inl zI), .inl (12, .inl (bkI 12)), .inl (12, .inl zI), .inl (8, .inl zI), .inl (8, .inl zI), .inl (8, .inl zI), .inl (8, .inl zI), .inl (8, .inl zI), .inl (8, .inl zI), .inr (1, [.int 0, .int 2, .ref 12, .ref 13, .ref 14, .int 0, .ref 15, .ref 16, .ref 17, .ref 18, .ref 19, .ref 20, .int 0]), .inl (12, .inl zI), .inl (12, .inl (bkI 12)), .inl (12, .inl zI), .inl (8, .inl zI), .inl (8, .inl zI), .inl (8, .inl zI), .inl (8, .inl zI), .inl (8, .inl zI), .inl (8, .inl zI), .inr (1, [.int 0, .int 2, .ref 22, .ref 23, .ref 24, .int 0, .ref 25, .ref 26, .ref 27, .ref 28, .ref 29, .ref 30, .int 0]), .inl (12, .inl zI), .inl (12, .inl (bkI 12)), .inl (12, .inl zI), .inl (8, .inl zI), .inl (8, .inl zI), .inl (8, .inl zI), .inl (8, .inl zI), .inl (8, .inl zI), .inl (8, .inl zI)]) g q hp dX4_init_31 li_X4_9 c_X1_init (Nat.le_of_ble_eq_true rfl) rfl rfl (hp.1.fr q (Nat.le_of_ble_eq_true rfl) (Nat.le_of_ble_eq_true rfl)) rfl (Nat.le_of_ble_eq_true rfl) (Nat.le_of_ble_eq_true rfl) (Nat.le_of_ble_eq_true rfl) (Nat.le_of_ble_eq_true rfl) rfl rfl rfl rfl (Nat.le_of_ble_eq_true rfl) rfl (fun X g q hp => ?_)
  refine v_putF (pc := 34) _ g hp.2.1 dX4_init_34 ff_X4_19 rfl (Nat.le_of_ble_eq_true rfl) (fun _ => rfl) (fun _ => rfl) rfl ?_
  refine v_w ([.inr (4, [.ref 1, .ref 11, .ref 21, .null, .null, .null, .null, .int 0]), .inr (1, [.int 0, .int 2, .ref 2, .ref 3, .ref 4, .int 0, .ref 5, .ref 6, .ref 7, .ref 8, .ref 9, .ref 10, .int 0]), .inl (12, .inl zI), .inl (12, .inl (bkI 12)), .inl (12, .inl zI), .inl (8, .inl zI), .inl (8, .inl zI), .inl (8, .inl zI), .inl (8, .inl zI), .inl (8, .inl zI), .inl (8, .inl zI), .inr (1, [.int 0, .int 2, .ref 12, .ref 13, .ref 14, .int 0, .ref 15, .ref 16, .ref 17, .ref 18, .ref 19, .ref 20, .int 0]), .inl (12, .inl zI), .inl (12, .inl (bkI 12)), .inl (12, .inl zI), .inl (8, .inl zI), .inl (8, .inl zI), .inl (8, .inl zI), .inl (8, .inl zI), .inl (8, .inl zI), .inl (8, .inl zI), .inr (1, [.int 0, .int 2, .ref 22, .ref 23, .ref 24, .int 0, .ref 25, .ref 26, .ref 27, .ref 28, .ref 29, .ref 30, .int 0]), .inl (12, .inl zI), .inl (12, .inl (bkI 12)), .inl (12, .inl zI), .inl (8, .inl zI), .inl (8, .inl zI), .inl (8, .inl zI), .inl (8, .inl zI), .inl (8, .inl zI), .inl (8, .inl zI)]) rfl ?_
  refine v_aload_n (pc := 37) 0 g dX4_init_37 rfl rfl ?_
  refine n_newO hPg (pc := 38) _ g q hp dX4_init_38 nw_X4_22 rfl (Nat.le_of_ble_eq_true rfl) (Nat.le_of_ble_eq_true rfl) (Nat.le_of_ble_eq_true rfl) rfl rfl rfl rfl (fun X g q hp => ?_)
  refine v_w ([.inr (4, [.ref 1, .ref 11, .ref 21, .null, .null, .null, .null, .int 0]), .inr (1, [.int 0, .int 2, .ref 2, .ref 3, .ref 4, .int 0, .ref 5, .ref 6, .ref 7, .ref 8, .ref 9, .ref 10, .int 0]), .inl (12, .inl zI), .inl (12, .inl (bkI 12)), .inl (12, .inl zI), .inl (8, .inl zI), .inl (8, .inl zI), .inl (8, .inl zI), .inl (8, .inl zI), .inl (8, .inl zI), .inl (8, .inl zI), .inr (1, [.int 0, .int 2, .ref 12, .ref 13, .ref 14, .int 0, .ref 15, .ref 16, .ref 17, .ref 18, .ref 19, .ref 20, .int 0]), .inl (12, .inl zI), .inl (12, .inl (bkI 12)), .inl (12, .inl zI), .inl (8, .inl zI), .inl (8, .inl zI), .inl (8, .inl zI), .inl (8, .inl zI), .inl (8, .inl zI), .inl (8, .inl zI), .inr (1, [.int 0, .int 2, .ref 22, .ref 23, .ref 24, .int 0, .ref 25, .ref 26, .ref 27, .ref 28, .ref 29, .ref 30, .int 0]), .inl (12, .inl zI), .inl (12, .inl (bkI 12)), .inl (12, .inl zI), .inl (8, .inl zI), .inl (8, .inl zI), .inl (8, .inl zI), .inl (8, .inl zI), .inl (8, .inl zI), .inl (8, .inl zI), .inr (2, [.null, .int 0])]) rfl ?_
  refine v_dup (pc := 41) g dX4_init_41 rfl ?_
  refine n_cIN hPg (pc := 42) ([.inr (4, [.ref 1, .ref 11, .ref 21, .null, .null, .null, .null, .int 0]), .inr (1, [.int 0, .int 2, .ref 2, .ref 3, .ref 4, .int 0, .ref 5, .ref 6, .ref 7, .ref 8, .ref 9, .ref 10, .int 0]), .inl (12, .inl zI), .inl (12, .inl (bkI 12)), .inl (12, .inl zI), .inl (8, .inl zI), .inl (8, .inl zI), .inl (8, .inl zI), .inl (8, .inl zI), .inl (8, .inl zI), .inl (8, .inl zI), .inr (1, [.int 0, .int 2, .ref 12, .ref 13, .ref 14, .int 0, .ref 15, .ref 16, .ref 17, .ref 18, .ref 19, .ref 20, .int 0]), .inl (12, .inl zI), .inl (12, .inl (bkI 12)), .inl (12, .inl zI), .inl (8, .inl zI), .inl (8, .inl zI), .inl (8, .inl zI), .inl (8, .inl zI), .inl (8, .inl zI), .inl (8, .inl zI), .inr (1, [.int 0, .int 2, .ref 22, .ref 23, .ref 24, .int 0, .ref 25, .ref 26, .ref 27, .ref 28, .ref 29, .ref 30, .int 0]), .inl (12, .inl zI), .inl (12, .inl (bkI 12)), .inl (12, .inl zI), .inl (8, .inl zI), .inl (8, .inl zI), .inl (8, .inl zI), .inl (8, .inl zI), .inl (8, .inl zI), .inl (8, .inl zI), .inr (2, [.ref 32, .int 0]), .inl (120, .inl zI)]) g q hp dX4_init_42 li_X4_24 c_X2_init (Nat.le_of_ble_eq_true rfl) rfl rfl (hp.1.fr q (Nat.le_of_ble_eq_true rfl) (Nat.le_of_ble_eq_true rfl)) rfl (Nat.le_of_ble_eq_true rfl) (Nat.le_of_ble_eq_true rfl) (Nat.le_of_ble_eq_true rfl) (Nat.le_of_ble_eq_true rfl) rfl rfl rfl rfl (Nat.le_of_ble_eq_true rfl) rfl (fun X g q hp => ?_)
  refine v_putF (pc := 45) _ g hp.2.1 dX4_init_45 ff_X4_25 rfl (Nat.le_of_ble_eq_true rfl) (fun _ => rfl) (fun _ => rfl) rfl ?_
  refine v_w ([.inr (4, [.ref 1, .ref 11, .ref 21, .ref 31, .null, .null, .null, .int 0]), .inr (1, [.int 0, .int 2, .ref 2, .ref 3, .ref 4, .int 0, .ref 5, .ref 6, .ref 7, .ref 8, .ref 9, .ref 10, .int 0]), .inl (12, .inl zI), .inl (12, .inl (bkI 12)), .inl (12, .inl zI), .inl (8, .inl zI), .inl (8, .inl zI), .inl (8, .inl zI), .inl (8, .inl zI), .inl (8, .inl zI), .inl (8, .inl zI), .inr (1, [.int 0, .int 2, .ref 12, .ref 13, .ref 14, .int 0, .ref 15, .ref 16, .ref 17, .ref 18, .ref 19, .ref 20, .int 0]), .inl (12, .inl zI), .inl (12, .inl (bkI 12)), .inl (12, .inl zI), .inl (8, .inl zI), .inl (8, .inl zI), .inl (8, .inl zI), .inl (8, .inl zI), .inl (8, .inl zI), .inl (8, .inl zI), .inr (1, [.int 0, .int 2, .ref 22, .ref 23, .ref 24, .int 0, .ref 25, .ref 26, .ref 27, .ref 28, .ref 29, .ref 30, .int 0]), .inl (12, .inl zI), .inl (12, .inl (bkI 12)), .inl (12, .inl zI), .inl (8, .inl zI), .inl (8, .inl zI), .inl (8, .inl zI), .inl (8, .inl zI), .inl (8, .inl zI), .inl (8, .inl zI), .inr (2, [.ref 32, .int 0]), .inl (120, .inl zI)]) rfl ?_
  refine v_aload_n (pc := 48) 0 g dX4_init_48 rfl rfl ?_
  refine n_newO hPg (pc := 49) _ g q hp dX4_init_49 nw_X4_29 rfl (Nat.le_of_ble_eq_true rfl) (Nat.le_of_ble_eq_true rfl) (Nat.le_of_ble_eq_true rfl) rfl rfl rfl rfl (fun X g q hp => ?_)
  refine v_w ([.inr (4, [.ref 1, .ref 11, .ref 21, .ref 31, .null, .null, .null, .int 0]), .inr (1, [.int 0, .int 2, .ref 2, .ref 3, .ref 4, .int 0, .ref 5, .ref 6, .ref 7, .ref 8, .ref 9, .ref 10, .int 0]), .inl (12, .inl zI), .inl (12, .inl (bkI 12)), .inl (12, .inl zI), .inl (8, .inl zI), .inl (8, .inl zI), .inl (8, .inl zI), .inl (8, .inl zI), .inl (8, .inl zI), .inl (8, .inl zI), .inr (1, [.int 0, .int 2, .ref 12, .ref 13, .ref 14, .int 0, .ref 15, .ref 16, .ref 17, .ref 18, .ref 19, .ref 20, .int 0]), .inl (12, .inl zI), .inl (12, .inl (bkI 12)), .inl (12, .inl zI), .inl (8, .inl zI), .inl (8, .inl zI), .inl (8, .inl zI), .inl (8, .inl zI), .inl (8, .inl zI), .inl (8, .inl zI), .inr (1, [.int 0, .int 2, .ref 22, .ref 23, .ref 24, .int 0, .ref 25, .ref 26, .ref 27, .ref 28, .ref 29, .ref 30, .int 0]), .inl (12, .inl zI), .inl (12, .inl (bkI 12)), .inl (12, .inl zI), .inl (8, .inl zI), .inl (8, .inl zI), .inl (8, .inl zI), .inl (8, .inl zI), .inl (8, .inl zI), .inl (8, .inl zI), .inr (2, [.ref 32, .int 0]), .inl (120, .inl zI), .inr (3, [.int 0, .int 0, .int 0, .int 0, .int 0])]) rfl ?_
  refine v_dup (pc := 52) g dX4_init_52 rfl ?_
  refine n_cIN hPg (pc := 53) ([.inr (4, [.ref 1, .ref 11, .ref 21, .ref 31, .null, .null, .null, .int 0]), .inr (1, [.int 0, .int 2, .ref 2, .ref 3, .ref 4, .int 0, .ref 5, .ref 6, .ref 7, .ref 8, .ref 9, .ref 10, .int 0]), .inl (12, .inl zI), .inl (12, .inl (bkI 12)), .inl (12, .inl zI), .inl (8, .inl zI), .inl (8, .inl zI), .inl (8, .inl zI), .inl (8, .inl zI), .inl (8, .inl zI), .inl (8, .inl zI), .inr (1, [.int 0, .int 2, .ref 12, .ref 13, .ref 14, .int 0, .ref 15, .ref 16, .ref 17, .ref 18, .ref 19, .ref 20, .int 0]), .inl (12, .inl zI), .inl (12, .inl (bkI 12)), .inl (12, .inl zI), .inl (8, .inl zI), .inl (8, .inl zI), .inl (8, .inl zI), .inl (8, .inl zI), .inl (8, .inl zI), .inl (8, .inl zI), .inr (1, [.int 0, .int 2, .ref 22, .ref 23, .ref 24, .int 0, .ref 25, .ref 26, .ref 27, .ref 28, .ref 29, .ref 30, .int 0]), .inl (12, .inl zI), .inl (12, .inl (bkI 12)), .inl (12, .inl zI), .inl (8, .inl zI), .inl (8, .inl zI), .inl (8, .inl zI), .inl (8, .inl zI), .inl (8, .inl zI), .inl (8, .inl zI), .inr (2, [.ref 32, .int 0]), .inl (120, .inl zI), .inr (3, [.int 0, .int 0, .int 0, .int 0, .int 0])]) g q hp dX4_init_53 li_X4_31 c_X3_init (Nat.le_of_ble_eq_true rfl) rfl rfl (hp.1.fr q (Nat.le_of_ble_eq_true rfl) (Nat.le_of_ble_eq_true rfl)) rfl (Nat.le_of_ble_eq_true rfl) (Nat.le_of_ble_eq_true rfl) (Nat.le_of_ble_eq_true rfl) (Nat.le_of_ble_eq_true rfl) rfl rfl rfl rfl (Nat.le_of_ble_eq_true rfl) rfl (fun X g q hp => ?_)
  refine v_putF (pc := 56) _ g hp.2.1 dX4_init_56 ff_X4_32 rfl (Nat.le_of_ble_eq_true rfl) (fun _ => rfl) (fun _ => rfl) rfl ?_
  refine v_w ([.inr (4, [.ref 1, .ref 11, .ref 21, .ref 31, .ref 33, .null, .null, .int 0]), .inr (1, [.int 0, .int 2, .ref 2, .ref 3, .ref 4, .int 0, .ref 5, .ref 6, .ref 7, .ref 8, .ref 9, .ref 10, .int 0]), .inl (12, .inl zI), .inl (12, .inl (bkI 12)), .inl (12, .inl zI), .inl (8, .inl zI), .inl (8, .inl zI), .inl (8, .inl zI), .inl (8, .inl zI), .inl (8, .inl zI), .inl (8, .inl zI), .inr (1, [.int 0, .int 2, .ref 12, .ref 13, .ref 14, .int 0, .ref 15, .ref 16, .ref 17, .ref 18, .ref 19, .ref 20, .int 0]), .inl (12, .inl zI), .inl (12, .inl (bkI 12)), .inl (12, .inl zI), .inl (8, .inl zI), .inl (8, .inl zI), .inl (8, .inl zI), .inl (8, .inl zI), .inl (8, .inl zI), .inl (8, .inl zI), .inr (1, [.int 0, .int 2, .ref 22, .ref 23, .ref 24, .int 0, .ref 25, .ref 26, .ref 27, .ref 28, .ref 29, .ref 30, .int 0]), .inl (12, .inl zI), .inl (12, .inl (bkI 12)), .inl (12, .inl zI), .inl (8, .inl zI), .inl (8, .inl zI), .inl (8, .inl zI), .inl (8, .inl zI), .inl (8, .inl zI), .inl (8, .inl zI), .inr (2, [.ref 32, .int 0]), .inl (120, .inl zI), .inr (3, [.int 0, .int 0, .int 0, .int 0, .int 0])]) rfl ?_
  refine v_aload_n (pc := 59) 0 g dX4_init_59 rfl rfl ?_
  refine n_newO hPg (pc := 60) _ g q hp dX4_init_60 nw_X4_36 rfl (Nat.le_of_ble_eq_true rfl) (Nat.le_of_ble_eq_true rfl) (Nat.le_of_ble_eq_true rfl) rfl rfl rfl rfl (fun X g q hp => ?_)
  refine v_w ([.inr (4, [.ref 1, .ref 11, .ref 21, .ref 31, .ref 33, .null, .null, .int 0]), .inr (1, [.int 0, .int 2, .ref 2, .ref 3, .ref 4, .int 0, .ref 5, .ref 6, .ref 7, .ref 8, .ref 9, .ref 10, .int 0]), .inl (12, .inl zI), .inl (12, .inl (bkI 12)), .inl (12, .inl zI), .inl (8, .inl zI), .inl (8, .inl zI), .inl (8, .inl zI), .inl (8, .inl zI), .inl (8, .inl zI), .inl (8, .inl zI), .inr (1, [.int 0, .int 2, .ref 12, .ref 13, .ref 14, .int 0, .ref 15, .ref 16, .ref 17, .ref 18, .ref 19, .ref 20, .int 0]), .inl (12, .inl zI), .inl (12, .inl (bkI 12)), .inl (12, .inl zI), .inl (8, .inl zI), .inl (8, .inl zI), .inl (8, .inl zI), .inl (8, .inl zI), .inl (8, .inl zI), .inl (8, .inl zI), .inr (1, [.int 0, .int 2, .ref 22, .ref 23, .ref 24, .int 0, .ref 25, .ref 26, .ref 27, .ref 28, .ref 29, .ref 30, .int 0]), .inl (12, .inl zI), .inl (12, .inl (bkI 12)), .inl (12, .inl zI), .inl (8, .inl zI), .inl (8, .inl zI), .inl (8, .inl zI), .inl (8, .inl zI), .inl (8, .inl zI), .inl (8, .inl zI), .inr (2, [.ref 32, .int 0]), .inl (120, .inl zI), .inr (3, [.int 0, .int 0, .int 0, .int 0, .int 0]), .inr (0, [.null, .null, .null])]) rfl ?_
  refine v_dup (pc := 63) g dX4_init_63 rfl ?_
  refine n_cIN hPg (pc := 64) ([.inr (4, [.ref 1, .ref 11, .ref 21, .ref 31, .ref 33, .null, .null, .int 0]), .inr (1, [.int 0, .int 2, .ref 2, .ref 3, .ref 4, .int 0, .ref 5, .ref 6, .ref 7, .ref 8, .ref 9, .ref 10, .int 0]), .inl (12, .inl zI), .inl (12, .inl (bkI 12)), .inl (12, .inl zI), .inl (8, .inl zI), .inl (8, .inl zI), .inl (8, .inl zI), .inl (8, .inl zI), .inl (8, .inl zI), .inl (8, .inl zI), .inr (1, [.int 0, .int 2, .ref 12, .ref 13, .ref 14, .int 0, .ref 15, .ref 16, .ref 17, .ref 18, .ref 19, .ref 20, .int 0]), .inl (12, .inl zI), .inl (12, .inl (bkI 12)), .inl (12, .inl zI), .inl (8, .inl zI), .inl (8, .inl zI), .inl (8, .inl zI), .inl (8, .inl zI), .inl (8, .inl zI), .inl (8, .inl zI), .inr (1, [.int 0, .int 2, .ref 22, .ref 23, .ref 24, .int 0, .ref 25, .ref 26, .ref 27, .ref 28, .ref 29, .ref 30, .int 0]), .inl (12, .inl zI), .inl (12, .inl (bkI 12)), .inl (12, .inl zI), .inl (8, .inl zI), .inl (8, .inl zI), .inl (8, .inl zI), .inl (8, .inl zI), .inl (8, .inl zI), .inl (8, .inl zI), .inr (2, [.ref 32, .int 0]), .inl (120, .inl zI), .inr (3, [.int 0, .int 0, .int 0, .int 0, .int 0]), .inr (0, [.ref 35, .ref 36, .ref 37]), .inl (4, .inl zI), .inl (4, .inl zI), .inl (160, .inr (.inl zJ))]) g q hp dX4_init_64 li_X4_38 c_X0_init (Nat.le_of_ble_eq_true rfl) rfl rfl (hp.1.fr q (Nat.le_of_ble_eq_true rfl) (Nat.le_of_ble_eq_true rfl)) rfl (Nat.le_of_ble_eq_true rfl) (Nat.le_of_ble_eq_true rfl) (Nat.le_of_ble_eq_true rfl) (Nat.le_of_ble_eq_true rfl) rfl rfl rfl rfl (Nat.le_of_ble_eq_true rfl) rfl (fun X g q hp => ?_)
  refine v_putF (pc := 67) _ g hp.2.1 dX4_init_67 ff_X4_39 rfl (Nat.le_of_ble_eq_true rfl) (fun _ => rfl) (fun _ => rfl) rfl ?_
  refine v_w ([.inr (4, [.ref 1, .ref 11, .ref 21, .ref 31, .ref 33, .ref 34, .null, .int 0]), .inr (1, [.int 0, .int 2, .ref 2, .ref 3, .ref 4, .int 0, .ref 5, .ref 6, .ref 7, .ref 8, .ref 9, .ref 10, .int 0]), .inl (12, .inl zI), .inl (12, .inl (bkI 12)), .inl (12, .inl zI), .inl (8, .inl zI), .inl (8, .inl zI), .inl (8, .inl zI), .inl (8, .inl zI), .inl (8, .inl zI), .inl (8, .inl zI), .inr (1, [.int 0, .int 2, .ref 12, .ref 13, .ref 14, .int 0, .ref 15, .ref 16, .ref 17, .ref 18, .ref 19, .ref 20, .int 0]), .inl (12, .inl zI), .inl (12, .inl (bkI 12)), .inl (12, .inl zI), .inl (8, .inl zI), .inl (8, .inl zI), .inl (8, .inl zI), .inl (8, .inl zI), .inl (8, .inl zI), .inl (8, .inl zI), .inr (1, [.int 0, .int 2, .ref 22, .ref 23, .ref 24, .int 0, .ref 25, .ref 26, .ref 27, .ref 28, .ref 29, .ref 30, .int 0]), .inl (12, .inl zI), .inl (12, .inl (bkI 12)), .inl (12, .inl zI), .inl (8, .inl zI), .inl (8, .inl zI), .inl (8, .inl zI), .inl (8, .inl zI), .inl (8, .inl zI), .inl (8, .inl zI), .inr (2, [.ref 32, .int 0]), .inl (120, .inl zI), .inr (3, [.int 0, .int 0, .int 0, .int 0, .int 0]), .inr (0, [.ref 35, .ref 36, .ref 37]), .inl (4, .inl zI), .inl (4, .inl zI), .inl (160, .inr (.inl zJ))]) rfl ?_
  refine v_aload_n (pc := 70) 0 g dX4_init_70 rfl rfl ?_
  refine v_bipush (pc := 71) (v := 7) g dX4_init_71 (by decide) ?_
  refine n_newI hPg (pc := 73) 7 g q hp dX4_init_73 rfl (Nat.le_of_ble_eq_true rfl) rfl (Nat.le_of_ble_eq_true rfl) (Nat.le_of_ble_eq_true rfl) (Nat.le_of_ble_eq_true rfl) rfl rfl rfl (fun X g q hp => ?_)
  refine v_w ([.inr (4, [.ref 1, .ref 11, .ref 21, .ref 31, .ref 33, .ref 34, .null, .int 0]), .inr (1, [.int 0, .int 2, .ref 2, .ref 3, .ref 4, .int 0, .ref 5, .ref 6, .ref 7, .ref 8, .ref 9, .ref 10, .int 0]), .inl (12, .inl zI), .inl (12, .inl (bkI 12)), .inl (12, .inl zI), .inl (8, .inl zI), .inl (8, .inl zI), .inl (8, .inl zI), .inl (8, .inl zI), .inl (8, .inl zI), .inl (8, .inl zI), .inr (1, [.int 0, .int 2, .ref 12, .ref 13, .ref 14, .int 0, .ref 15, .ref 16, .ref 17, .ref 18, .ref 19, .ref 20, .int 0]), .inl (12, .inl zI), .inl (12, .inl (bkI 12)), .inl (12, .inl zI), .inl (8, .inl zI), .inl (8, .inl zI), .inl (8, .inl zI), .inl (8, .inl zI), .inl (8, .inl zI), .inl (8, .inl zI), .inr (1, [.int 0, .int 2, .ref 22, .ref 23, .ref 24, .int 0, .ref 25, .ref 26, .ref 27, .ref 28, .ref 29, .ref 30, .int 0]), .inl (12, .inl zI), .inl (12, .inl (bkI 12)), .inl (12, .inl zI), .inl (8, .inl zI), .inl (8, .inl zI), .inl (8, .inl zI), .inl (8, .inl zI), .inl (8, .inl zI), .inl (8, .inl zI), .inr (2, [.ref 32, .int 0]), .inl (120, .inl zI), .inr (3, [.int 0, .int 0, .int 0, .int 0, .int 0]), .inr (0, [.ref 35, .ref 36, .ref 37]), .inl (4, .inl zI), .inl (4, .inl zI), .inl (160, .inr (.inl zJ)), .inl (7, .inl zI)]) rfl ?_
  refine v_putF (pc := 75) _ g hp.2.1 dX4_init_75 ff_X4_43 rfl (Nat.le_of_ble_eq_true rfl) (fun _ => rfl) (fun _ => rfl) rfl ?_
  refine v_w ([.inr (4, [.ref 1, .ref 11, .ref 21, .ref 31, .ref 33, .ref 34, .ref 38, .int 0]), .inr (1, [.int 0, .int 2, .ref 2, .ref 3, .ref 4, .int 0, .ref 5, .ref 6, .ref 7, .ref 8, .ref 9, .ref 10, .int 0]), .inl (12, .inl zI), .inl (12, .inl (bkI 12)), .inl (12, .inl zI), .inl (8, .inl zI), .inl (8, .inl zI), .inl (8, .inl zI), .inl (8, .inl zI), .inl (8, .inl zI), .inl (8, .inl zI), .inr (1, [.int 0, .int 2, .ref 12, .ref 13, .ref 14, .int 0, .ref 15, .ref 16, .ref 17, .ref 18, .ref 19, .ref 20, .int 0]), .inl (12, .inl zI), .inl (12, .inl (bkI 12)), .inl (12, .inl zI), .inl (8, .inl zI), .inl (8, .inl zI), .inl (8, .inl zI), .inl (8, .inl zI), .inl (8, .inl zI), .inl (8, .inl zI), .inr (1, [.int 0, .int 2, .ref 22, .ref 23, .ref 24, .int 0, .ref 25, .ref 26, .ref 27, .ref 28, .ref 29, .ref 30, .int 0]), .inl (12, .inl zI), .inl (12, .inl (bkI 12)), .inl (12, .inl zI), .inl (8, .inl zI), .inl (8, .inl zI), .inl (8, .inl zI), .inl (8, .inl zI), .inl (8, .inl zI), .inl (8, .inl zI), .inr (2, [.ref 32, .int 0]), .inl (120, .inl zI), .inr (3, [.int 0, .int 0, .int 0, .int 0, .int 0]), .inr (0, [.ref 35, .ref 36, .ref 37]), .inl (4, .inl zI), .inl (4, .inl zI), .inl (160, .inr (.inl zJ)), .inl (7, .inl zI)]) rfl ?_
  refine v_aload_n (pc := 78) 0 g dX4_init_78 rfl rfl ?_
  refine v_iconst (pc := 79) (v := 0) g dX4_init_79 (by decide) ?_
  refine v_put (pc := 80) _ g dX4_init_80 fp_X4_47 rfl (Nat.le_of_ble_eq_true rfl) rfl rfl rfl rfl ?_
  refine v_w ([.inr (4, [.ref 1, .ref 11, .ref 21, .ref 31, .ref 33, .ref 34, .ref 38, .int 0]), .inr (1, [.int 0, .int 2, .ref 2, .ref 3, .ref 4, .int 0, .ref 5, .ref 6, .ref 7, .ref 8, .ref 9, .ref 10, .int 0]), .inl (12, .inl zI), .inl (12, .inl (bkI 12)), .inl (12, .inl zI), .inl (8, .inl zI), .inl (8, .inl zI), .inl (8, .inl zI), .inl (8, .inl zI), .inl (8, .inl zI), .inl (8, .inl zI), .inr (1, [.int 0, .int 2, .ref 12, .ref 13, .ref 14, .int 0, .ref 15, .ref 16, .ref 17, .ref 18, .ref 19, .ref 20, .int 0]), .inl (12, .inl zI), .inl (12, .inl (bkI 12)), .inl (12, .inl zI), .inl (8, .inl zI), .inl (8, .inl zI), .inl (8, .inl zI), .inl (8, .inl zI), .inl (8, .inl zI), .inl (8, .inl zI), .inr (1, [.int 0, .int 2, .ref 22, .ref 23, .ref 24, .int 0, .ref 25, .ref 26, .ref 27, .ref 28, .ref 29, .ref 30, .int 0]), .inl (12, .inl zI), .inl (12, .inl (bkI 12)), .inl (12, .inl zI), .inl (8, .inl zI), .inl (8, .inl zI), .inl (8, .inl zI), .inl (8, .inl zI), .inl (8, .inl zI), .inl (8, .inl zI), .inr (2, [.ref 32, .int 0]), .inl (120, .inl zI), .inr (3, [.int 0, .int 0, .int 0, .int 0, .int 0]), .inr (0, [.ref 35, .ref 36, .ref 37]), .inl (4, .inl zI), .inl (4, .inl zI), .inl (160, .inr (.inl zJ)), .inl (7, .inl zI)]) rfl ?_
  refine v_w (xW St0 0 St0 0 St0 0 zI 0 0 0 0 0 0 zI zI zJ zI 0) rfl ?_
  exact v_nret (pc := 83) g q hp.1 dX4_init_83
theorem wo_X5 : Cond.methodLink RX5 1 Lib.objectInit ∈ tbG := tbG_in (List.mem_of_getElem? (i := 717) (by decide +kernel)) (by decide +kernel)
theorem ff_X5_7 : FQ RX5 7 5 0 (.array .int) := ⟨RX5, TX5, 20, tyX5, cl_X5, by decide, rfl, rfl, fw_X5_7, rfl, by decide +kernel⟩
theorem ff_X5_13 : FQ RX5 13 5 1 (.array .int) := ⟨RX5, TX5, 20, tyX5, cl_X5, by decide, rfl, rfl, fw_X5_13, rfl, by decide +kernel⟩
theorem ff_X5_16 : FQ RX5 16 5 3 (.array .int) := ⟨RX5, TX5, 20, tyX5, cl_X5, by decide, rfl, rfl, fw_X5_16, rfl, by decide +kernel⟩
theorem ff_X5_19 : FQ RX5 19 5 4 (.array .int) := ⟨RX5, TX5, 20, tyX5, cl_X5, by decide, rfl, rfl, fw_X5_19, rfl, by decide +kernel⟩
theorem ff_X5_22 : FQ RX5 22 5 5 (.array .int) := ⟨RX5, TX5, 20, tyX5, cl_X5, by decide, rfl, rfl, fw_X5_22, rfl, by decide +kernel⟩
theorem ff_X5_25 : FQ RX5 25 5 13 (.array .int) := ⟨RX5, TX5, 20, tyX5, cl_X5, by decide, rfl, rfl, fw_X5_25, rfl, by decide +kernel⟩
theorem ff_X5_28 : FQ RX5 28 5 14 (.array .int) := ⟨RX5, TX5, 20, tyX5, cl_X5, by decide, rfl, rfl, fw_X5_28, rfl, by decide +kernel⟩
theorem ff_X5_31 : FQ RX5 31 5 15 (.array .long) := ⟨RX5, TX5, 20, tyX5, cl_X5, by decide, rfl, rfl, fw_X5_31, rfl, by decide +kernel⟩
theorem ff_X5_35 : FQ RX5 35 5 16 (.array .long) := ⟨RX5, TX5, 20, tyX5, cl_X5, by decide, rfl, rfl, fw_X5_35, rfl, by decide +kernel⟩
theorem ff_X5_38 : FQ RX5 38 5 17 (.array .int) := ⟨RX5, TX5, 20, tyX5, cl_X5, by decide, rfl, rfl, fw_X5_38, rfl, by decide +kernel⟩
theorem ff_X5_41 : FQ RX5 41 5 18 (.array .int) := ⟨RX5, TX5, 20, tyX5, cl_X5, by decide, rfl, rfl, fw_X5_41, rfl, by decide +kernel⟩
set_option maxRecDepth 20000 in
set_option maxHeartbeats 2000000 in
theorem c_X5_init : RunN 1 11 770 yX5_init cX5_init 2 ([.inr (5, [.null, .null, .int 0, .null, .null, .null, .int 0, .int 0, .int 0, .int 0, .long 0, .int 0, .int 0, .null, .null, .null, .null, .null, .null, .int 0])]) (mW (rowOf St0) zI 0 zI zI zI 0 0 0 0 0 0 0 zI zI zJ zJ zI zI 0) := by
  refine RunN.of (by decide) rfl (by decide) rfl ?_
  intro X g q r hi hnL
  have hp : PN 1 11 770 (mW (rowOf St0) zI 0 zI zI zI 0 0 0 0 0 0 0 zI zI zJ zJ zI zI 0) 2 X := ⟨r, hi, hnL⟩
  have hPg := PNg 1 11 770 (mW (rowOf St0) zI 0 zI zI zI 0 0 0 0 0 0 0 zI zI zJ zJ zI zI 0) 2
  refine v_aload_n (pc := 0) 0 g dX5_init_0 rfl rfl ?_
  refine v_oinit (pc := 1) g dX5_init_1 wo_X5 wo_2 wo_3 (Nat.le_of_ble_eq_true rfl) (Nat.le_of_ble_eq_true rfl) ?_
  refine v_aload_n (pc := 4) 0 g dX5_init_4 rfl rfl ?_
  refine v_bipush (pc := 5) (v := 87) g dX5_init_5 (by decide) ?_
  refine n_newI hPg (pc := 7) 87 g q hp dX5_init_7 rfl (Nat.le_of_ble_eq_true rfl) rfl (Nat.le_of_ble_eq_true rfl) (Nat.le_of_ble_eq_true rfl) (Nat.le_of_ble_eq_true rfl) rfl rfl rfl (fun X g q hp => ?_)
  refine v_w ([.inr (5, [.null, .null, .int 0, .null, .null, .null, .int 0, .int 0, .int 0, .int 0, .long 0, .int 0, .int 0, .null, .null, .null, .null, .null, .null, .int 0]), .inl (87, .inl zI)]) rfl ?_
  refine v_putF (pc := 9) _ g hp.2.1 dX5_init_9 ff_X5_7 rfl (Nat.le_of_ble_eq_true rfl) (fun _ => rfl) (fun _ => rfl) rfl ?_
  refine v_w ([.inr (5, [.ref 1, .null, .int 0, .null, .null, .null, .int 0, .int 0, .int 0, .int 0, .long 0, .int 0, .int 0, .null, .null, .null, .null, .null, .null, .int 0]), .inl (87, .inl zI)]) rfl ?_
  refine v_aload_n (pc := 12) 0 g dX5_init_12 rfl rfl ?_
  refine v_bipush (pc := 13) (v := 7) g dX5_init_13 (by decide) ?_
  refine n_newI hPg (pc := 15) 7 g q hp dX5_init_15 rfl (Nat.le_of_ble_eq_true rfl) rfl (Nat.le_of_ble_eq_true rfl) (Nat.le_of_ble_eq_true rfl) (Nat.le_of_ble_eq_true rfl) rfl rfl rfl (fun X g q hp => ?_)
  refine v_w ([.inr (5, [.ref 1, .null, .int 0, .null, .null, .null, .int 0, .int 0, .int 0, .int 0, .long 0, .int 0, .int 0, .null, .null, .null, .null, .null, .null, .int 0]), .inl (87, .inl zI), .inl (7, .inl zI)]) rfl ?_
  refine v_putF (pc := 17) _ g hp.2.1 dX5_init_17 ff_X5_13 rfl (Nat.le_of_ble_eq_true rfl) (fun _ => rfl) (fun _ => rfl) rfl ?_
  refine v_w ([.inr (5, [.ref 1, .ref 2, .int 0, .null, .null, .null, .int 0, .int 0, .int 0, .int 0, .long 0, .int 0, .int 0, .null, .null, .null, .null, .null, .null, .int 0]), .inl (87, .inl zI), .inl (7, .inl zI)]) rfl ?_
  refine v_aload_n (pc := 20) 0 g dX5_init_20 rfl rfl ?_
  refine v_bipush (pc := 21) (v := 87) g dX5_init_21 (by decide) ?_
  refine n_newI hPg (pc := 23) 87 g q hp dX5_init_23 rfl (Nat.le_of_ble_eq_true rfl) rfl (Nat.le_of_ble_eq_true rfl) (Nat.le_of_ble_eq_true rfl) (Nat.le_of_ble_eq_true rfl) rfl rfl rfl (fun X g q hp => ?_)
  refine v_w ([.inr (5, [.ref 1, .ref 2, .int 0, .null, .null, .null, .int 0, .int 0, .int 0, .int 0, .long 0, .int 0, .int 0, .null, .null, .null, .null, .null, .null, .int 0]), .inl (87, .inl zI), .inl (7, .inl zI), .inl (87, .inl zI)]) rfl ?_
  refine v_putF (pc := 25) _ g hp.2.1 dX5_init_25 ff_X5_16 rfl (Nat.le_of_ble_eq_true rfl) (fun _ => rfl) (fun _ => rfl) rfl ?_
  refine v_w ([.inr (5, [.ref 1, .ref 2, .int 0, .ref 3, .null, .null, .int 0, .int 0, .int 0, .int 0, .long 0, .int 0, .int 0, .null, .null, .null, .null, .null, .null, .int 0]), .inl (87, .inl zI), .inl (7, .inl zI), .inl (87, .inl zI)]) rfl ?_
  refine v_aload_n (pc := 28) 0 g dX5_init_28 rfl rfl ?_
  refine v_bipush (pc := 29) (v := 87) g dX5_init_29 (by decide) ?_
  refine n_newI hPg (pc := 31) 87 g q hp dX5_init_31 rfl (Nat.le_of_ble_eq_true rfl) rfl (Nat.le_of_ble_eq_true rfl) (Nat.le_of_ble_eq_true rfl) (Nat.le_of_ble_eq_true rfl) rfl rfl rfl (fun X g q hp => ?_)
  refine v_w ([.inr (5, [.ref 1, .ref 2, .int 0, .ref 3, .null, .null, .int 0, .int 0, .int 0, .int 0, .long 0, .int 0, .int 0, .null, .null, .null, .null, .null, .null, .int 0]), .inl (87, .inl zI), .inl (7, .inl zI), .inl (87, .inl zI), .inl (87, .inl zI)]) rfl ?_
  refine v_putF (pc := 33) _ g hp.2.1 dX5_init_33 ff_X5_19 rfl (Nat.le_of_ble_eq_true rfl) (fun _ => rfl) (fun _ => rfl) rfl ?_
  refine v_w ([.inr (5, [.ref 1, .ref 2, .int 0, .ref 3, .ref 4, .null, .int 0, .int 0, .int 0, .int 0, .long 0, .int 0, .int 0, .null, .null, .null, .null, .null, .null, .int 0]), .inl (87, .inl zI), .inl (7, .inl zI), .inl (87, .inl zI), .inl (87, .inl zI)]) rfl ?_
  refine v_aload_n (pc := 36) 0 g dX5_init_36 rfl rfl ?_
  refine v_bipush (pc := 37) (v := 120) g dX5_init_37 (by decide) ?_
  refine n_newI hPg (pc := 39) 120 g q hp dX5_init_39 rfl (Nat.le_of_ble_eq_true rfl) rfl (Nat.le_of_ble_eq_true rfl) (Nat.le_of_ble_eq_true rfl) (Nat.le_of_ble_eq_true rfl) rfl rfl rfl (fun X g q hp => ?_)
  refine v_w ([.inr (5, [.ref 1, .ref 2, .int 0, .ref 3, .ref 4, .null, .int 0, .int 0, .int 0, .int 0, .long 0, .int 0, .int 0, .null, .null, .null, .null, .null, .null, .int 0]), .inl (87, .inl zI), .inl (7, .inl zI), .inl (87, .inl zI), .inl (87, .inl zI), .inl (120, .inl zI)]) rfl ?_
  refine v_putF (pc := 41) _ g hp.2.1 dX5_init_41 ff_X5_22 rfl (Nat.le_of_ble_eq_true rfl) (fun _ => rfl) (fun _ => rfl) rfl ?_
  refine v_w ([.inr (5, [.ref 1, .ref 2, .int 0, .ref 3, .ref 4, .ref 5, .int 0, .int 0, .int 0, .int 0, .long 0, .int 0, .int 0, .null, .null, .null, .null, .null, .null, .int 0]), .inl (87, .inl zI), .inl (7, .inl zI), .inl (87, .inl zI), .inl (87, .inl zI), .inl (120, .inl zI)]) rfl ?_
  refine v_aload_n (pc := 44) 0 g dX5_init_44 rfl rfl ?_
  refine v_iconst (pc := 45) (v := 4) g dX5_init_45 (by decide) ?_
  refine n_newI hPg (pc := 46) 4 g q hp dX5_init_46 rfl (Nat.le_of_ble_eq_true rfl) rfl (Nat.le_of_ble_eq_true rfl) (Nat.le_of_ble_eq_true rfl) (Nat.le_of_ble_eq_true rfl) rfl rfl rfl (fun X g q hp => ?_)
  refine v_w ([.inr (5, [.ref 1, .ref 2, .int 0, .ref 3, .ref 4, .ref 5, .int 0, .int 0, .int 0, .int 0, .long 0, .int 0, .int 0, .null, .null, .null, .null, .null, .null, .int 0]), .inl (87, .inl zI), .inl (7, .inl zI), .inl (87, .inl zI), .inl (87, .inl zI), .inl (120, .inl zI), .inl (4, .inl zI)]) rfl ?_
  refine v_putF (pc := 48) _ g hp.2.1 dX5_init_48 ff_X5_25 rfl (Nat.le_of_ble_eq_true rfl) (fun _ => rfl) (fun _ => rfl) rfl ?_
  refine v_w ([.inr (5, [.ref 1, .ref 2, .int 0, .ref 3, .ref 4, .ref 5, .int 0, .int 0, .int 0, .int 0, .long 0, .int 0, .int 0, .ref 6, .null, .null, .null, .null, .null, .int 0]), .inl (87, .inl zI), .inl (7, .inl zI), .inl (87, .inl zI), .inl (87, .inl zI), .inl (120, .inl zI), .inl (4, .inl zI)]) rfl ?_
  refine v_aload_n (pc := 51) 0 g dX5_init_51 rfl rfl ?_
  refine v_iconst (pc := 52) (v := 4) g dX5_init_52 (by decide) ?_
  refine n_newI hPg (pc := 53) 4 g q hp dX5_init_53 rfl (Nat.le_of_ble_eq_true rfl) rfl (Nat.le_of_ble_eq_true rfl) (Nat.le_of_ble_eq_true rfl) (Nat.le_of_ble_eq_true rfl) rfl rfl rfl (fun X g q hp => ?_)
  refine v_w ([.inr (5, [.ref 1, .ref 2, .int 0, .ref 3, .ref 4, .ref 5, .int 0, .int 0, .int 0, .int 0, .long 0, .int 0, .int 0, .ref 6, .null, .null, .null, .null, .null, .int 0]), .inl (87, .inl zI), .inl (7, .inl zI), .inl (87, .inl zI), .inl (87, .inl zI), .inl (120, .inl zI), .inl (4, .inl zI), .inl (4, .inl zI)]) rfl ?_
  refine v_putF (pc := 55) _ g hp.2.1 dX5_init_55 ff_X5_28 rfl (Nat.le_of_ble_eq_true rfl) (fun _ => rfl) (fun _ => rfl) rfl ?_
  refine v_w ([.inr (5, [.ref 1, .ref 2, .int 0, .ref 3, .ref 4, .ref 5, .int 0, .int 0, .int 0, .int 0, .long 0, .int 0, .int 0, .ref 6, .ref 7, .null, .null, .null, .null, .int 0]), .inl (87, .inl zI), .inl (7, .inl zI), .inl (87, .inl zI), .inl (87, .inl zI), .inl (120, .inl zI), .inl (4, .inl zI), .inl (4, .inl zI)]) rfl ?_
  refine v_aload_n (pc := 58) 0 g dX5_init_58 rfl rfl ?_
  refine v_sipush (pc := 59) (v := 160) g dX5_init_59 (by decide) ?_
  refine n_newJ hPg (pc := 62) 160 g q hp dX5_init_62 rfl (Nat.le_of_ble_eq_true rfl) rfl (Nat.le_of_ble_eq_true rfl) (Nat.le_of_ble_eq_true rfl) (Nat.le_of_ble_eq_true rfl) rfl rfl rfl (fun X g q hp => ?_)
  refine v_w ([.inr (5, [.ref 1, .ref 2, .int 0, .ref 3, .ref 4, .ref 5, .int 0, .int 0, .int 0, .int 0, .long 0, .int 0, .int 0, .ref 6, .ref 7, .null, .null, .null, .null, .int 0]), .inl (87, .inl zI), .inl (7, .inl zI), .inl (87, .inl zI), .inl (87, .inl zI), .inl (120, .inl zI), .inl (4, .inl zI), .inl (4, .inl zI), .inl (160, .inr (.inl zJ))]) rfl ?_
  refine v_putF (pc := 64) _ g hp.2.1 dX5_init_64 ff_X5_31 rfl (Nat.le_of_ble_eq_true rfl) (fun _ => rfl) (fun _ => rfl) rfl ?_
  refine v_w ([.inr (5, [.ref 1, .ref 2, .int 0, .ref 3, .ref 4, .ref 5, .int 0, .int 0, .int 0, .int 0, .long 0, .int 0, .int 0, .ref 6, .ref 7, .ref 8, .null, .null, .null, .int 0]), .inl (87, .inl zI), .inl (7, .inl zI), .inl (87, .inl zI), .inl (87, .inl zI), .inl (120, .inl zI), .inl (4, .inl zI), .inl (4, .inl zI), .inl (160, .inr (.inl zJ))]) rfl ?_
  refine v_aload_n (pc := 67) 0 g dX5_init_67 rfl rfl ?_
  refine v_bipush (pc := 68) (v := 40) g dX5_init_68 (by decide) ?_
  refine n_newJ hPg (pc := 70) 40 g q hp dX5_init_70 rfl (Nat.le_of_ble_eq_true rfl) rfl (Nat.le_of_ble_eq_true rfl) (Nat.le_of_ble_eq_true rfl) (Nat.le_of_ble_eq_true rfl) rfl rfl rfl (fun X g q hp => ?_)
  refine v_w ([.inr (5, [.ref 1, .ref 2, .int 0, .ref 3, .ref 4, .ref 5, .int 0, .int 0, .int 0, .int 0, .long 0, .int 0, .int 0, .ref 6, .ref 7, .ref 8, .null, .null, .null, .int 0]), .inl (87, .inl zI), .inl (7, .inl zI), .inl (87, .inl zI), .inl (87, .inl zI), .inl (120, .inl zI), .inl (4, .inl zI), .inl (4, .inl zI), .inl (160, .inr (.inl zJ)), .inl (40, .inr (.inl zJ))]) rfl ?_
  refine v_putF (pc := 72) _ g hp.2.1 dX5_init_72 ff_X5_35 rfl (Nat.le_of_ble_eq_true rfl) (fun _ => rfl) (fun _ => rfl) rfl ?_
  refine v_w ([.inr (5, [.ref 1, .ref 2, .int 0, .ref 3, .ref 4, .ref 5, .int 0, .int 0, .int 0, .int 0, .long 0, .int 0, .int 0, .ref 6, .ref 7, .ref 8, .ref 9, .null, .null, .int 0]), .inl (87, .inl zI), .inl (7, .inl zI), .inl (87, .inl zI), .inl (87, .inl zI), .inl (120, .inl zI), .inl (4, .inl zI), .inl (4, .inl zI), .inl (160, .inr (.inl zJ)), .inl (40, .inr (.inl zJ))]) rfl ?_
  refine v_aload_n (pc := 75) 0 g dX5_init_75 rfl rfl ?_
  refine v_bipush (pc := 76) (v := 87) g dX5_init_76 (by decide) ?_
  refine n_newI hPg (pc := 78) 87 g q hp dX5_init_78 rfl (Nat.le_of_ble_eq_true rfl) rfl (Nat.le_of_ble_eq_true rfl) (Nat.le_of_ble_eq_true rfl) (Nat.le_of_ble_eq_true rfl) rfl rfl rfl (fun X g q hp => ?_)
  refine v_w ([.inr (5, [.ref 1, .ref 2, .int 0, .ref 3, .ref 4, .ref 5, .int 0, .int 0, .int 0, .int 0, .long 0, .int 0, .int 0, .ref 6, .ref 7, .ref 8, .ref 9, .null, .null, .int 0]), .inl (87, .inl zI), .inl (7, .inl zI), .inl (87, .inl zI), .inl (87, .inl zI), .inl (120, .inl zI), .inl (4, .inl zI), .inl (4, .inl zI), .inl (160, .inr (.inl zJ)), .inl (40, .inr (.inl zJ)), .inl (87, .inl zI)]) rfl ?_
  refine v_putF (pc := 80) _ g hp.2.1 dX5_init_80 ff_X5_38 rfl (Nat.le_of_ble_eq_true rfl) (fun _ => rfl) (fun _ => rfl) rfl ?_
  refine v_w ([.inr (5, [.ref 1, .ref 2, .int 0, .ref 3, .ref 4, .ref 5, .int 0, .int 0, .int 0, .int 0, .long 0, .int 0, .int 0, .ref 6, .ref 7, .ref 8, .ref 9, .ref 10, .null, .int 0]), .inl (87, .inl zI), .inl (7, .inl zI), .inl (87, .inl zI), .inl (87, .inl zI), .inl (120, .inl zI), .inl (4, .inl zI), .inl (4, .inl zI), .inl (160, .inr (.inl zJ)), .inl (40, .inr (.inl zJ)), .inl (87, .inl zI)]) rfl ?_
  refine v_aload_n (pc := 83) 0 g dX5_init_83 rfl rfl ?_
  refine v_bipush (pc := 84) (v := 87) g dX5_init_84 (by decide) ?_
  refine n_newI hPg (pc := 86) 87 g q hp dX5_init_86 rfl (Nat.le_of_ble_eq_true rfl) rfl (Nat.le_of_ble_eq_true rfl) (Nat.le_of_ble_eq_true rfl) (Nat.le_of_ble_eq_true rfl) rfl rfl rfl (fun X g q hp => ?_)
  refine v_w ([.inr (5, [.ref 1, .ref 2, .int 0, .ref 3, .ref 4, .ref 5, .int 0, .int 0, .int 0, .int 0, .long 0, .int 0, .int 0, .ref 6, .ref 7, .ref 8, .ref 9, .ref 10, .null, .int 0]), .inl (87, .inl zI), .inl (7, .inl zI), .inl (87, .inl zI), .inl (87, .inl zI), .inl (120, .inl zI), .inl (4, .inl zI), .inl (4, .inl zI), .inl (160, .inr (.inl zJ)), .inl (40, .inr (.inl zJ)), .inl (87, .inl zI), .inl (87, .inl zI)]) rfl ?_
  refine v_putF (pc := 88) _ g hp.2.1 dX5_init_88 ff_X5_41 rfl (Nat.le_of_ble_eq_true rfl) (fun _ => rfl) (fun _ => rfl) rfl ?_
  refine v_w ([.inr (5, [.ref 1, .ref 2, .int 0, .ref 3, .ref 4, .ref 5, .int 0, .int 0, .int 0, .int 0, .long 0, .int 0, .int 0, .ref 6, .ref 7, .ref 8, .ref 9, .ref 10, .ref 11, .int 0]), .inl (87, .inl zI), .inl (7, .inl zI), .inl (87, .inl zI), .inl (87, .inl zI), .inl (120, .inl zI), .inl (4, .inl zI), .inl (4, .inl zI), .inl (160, .inr (.inl zJ)), .inl (40, .inr (.inl zJ)), .inl (87, .inl zI), .inl (87, .inl zI)]) rfl ?_
  have hnL := hp.2.2
  refine v_w (mW (rowOf (St00 0 0)) zI 0 zI zI zI 0 0 0 0 0 0 0 zI zI zJ zJ zI zI 0) (by rw [row_0]; rfl) ?_
  refine v_aload_n (pc := 91) 0 g dX5_init_91 rfl rfl ?_
  refine v_get (pc := 92) g dX5_init_92 fl_X5_7 rfl rfl ?_
  refine v_iconst (pc := 95) (v := 1) g dX5_init_95 (by decide) ?_
  refine v_iconst (pc := 96) (v := 2) g dX5_init_96 (by decide) ?_
  refine v_iastN (pc := 97) 1 _ g dX5_init_97 rfl rfl (Nat.le_of_ble_eq_true rfl) (Nat.le_of_ble_eq_true rfl) rfl ?_
  refine v_w (mW (rowOf (St00 2 0)) zI 0 zI zI zI 0 0 0 0 0 0 0 zI zI zJ zJ zI zI 0) (by show mW (upd (rowOf (St00 0 0)) 1 2) zI 0 zI zI zI 0 0 0 0 0 0 0 zI zI zJ zJ zI zI 0 = _; rw [rup_Dr]; rfl) ?_
  refine v_iconst (pc := 98) (v := 0) g dX5_init_98 (by decide) ?_
  refine v_istore_n (pc := 99) 1 _ g dX5_init_99 rfl (Nat.le_of_ble_eq_true rfl) hnL.symm rfl ?_
  have L100 : ∀ (fu k : Nat), k ≤ 12 → 12 - k < fu → V X 100 [some (.ref 0), some (.int (nI k))] [] (mW (rowOf (St00 2 k)) zI 0 zI zI zI 0 0 0 0 0 0 0 zI zI zJ zJ zI zI 0) := by
    intro fu
    induction fu with
    | zero => intro k hk hm; exact absurd hm (Nat.not_lt_zero _)
    | succ fu ih =>
      intro k hk hm
      refine v_iload_n (pc := 100) 1 g dX5_init_100 rfl rfl ?_
      refine v_bipush (pc := 101) (v := 12) g dX5_init_101 (by decide) ?_
      refine v_icmp_ge (pc := 103) 125 g dX5_init_103 rfl (fun c103 => ?_) (fun c103 => ?_)
      · have e103 : k = 12 := ge_t (n := 12) rfl hk (by omega) c103
        subst e103
        exact v_nret (pc := 125) g q hp.1 dX5_init_125
      · have e103 : k < 12 := ge_f (n := 12) rfl hk (by omega) c103
        refine v_aload_n (pc := 106) 0 g dX5_init_106 rfl rfl ?_
        refine v_get (pc := 107) g dX5_init_107 fl_X5_7 rfl rfl ?_
        refine v_iconst (pc := 110) (v := 3) g dX5_init_110 (by decide) ?_
        refine v_iconst (pc := 111) (v := 3) g dX5_init_111 (by decide) ?_
        refine v_iload_n (pc := 112) 1 g dX5_init_112 rfl rfl ?_
        refine v_imul (pc := 113) g dX5_init_113 ?_
        refine v_iadd (pc := 114) g dX5_init_114 ?_
        refine v_iconst (pc := 115) (v := 1) g dX5_init_115 (by decide) ?_
        refine v_iadd (pc := 116) g dX5_init_116 ?_
        refine v_iconst (pc := 117) (v := 1) g dX5_init_117 (by decide) ?_
        refine v_iastN (pc := 118) (3 + 3 * k + 1) _ g dX5_init_118 rfl (ix_h k 1) (by omega) (Nat.le_of_ble_eq_true rfl) rfl ?_
        refine v_w (mW (rowOf (St00 2 (k + 1))) zI 0 zI zI zI 0 0 0 0 0 0 0 zI zI zJ zJ zI zI 0) (by show mW (upd (rowOf (St00 2 k)) (3 + 3 * k + 1) 1) zI 0 zI zI zI 0 0 0 0 0 0 0 zI zI zJ zJ zI zI 0 = _; rw [rup_Bo _ e103]; show mW (rowOf (pBo (St00 2 k) (upd (bkI k) k 1))) zI 0 zI zI zI 0 0 0 0 0 0 0 zI zI zJ zJ zI zI 0 = _; rw [bkI_up]; rfl) ?_
        refine v_iincN (pc := 119) g dX5_init_119 rfl hnL.symm ?_
        refine v_goto (pc := 122) 100 g dX5_init_122 rfl ?_
        exact ih (k + 1) (by omega) (by omega)
  exact L100 13 0 (Nat.zero_le _) (by omega)
