/-! ===== no world: static methods; helpers ===== -/
theorem nb1 : narrow .boolean (.int 1) = .int 1 := rfl
theorem nb0 : narrow .boolean (.int 0) = .int 0 := rfl
theorem nbI {P : Prop} [Decidable P] : narrow .boolean (.int (bI P)) = .int (bI P) := by
  by_cases h : P
  · rw [bI_1 h]; rfl
  · rw [bI_0 h]; rfl
theorem so1 {P : Prop} [Decidable P] (h : P) : some (Value.int 1) = some (Value.int (bI P)) := by rw [bI_1 h]
theorem so0 {P : Prop} [Decidable P] (h : ¬ P) : some (Value.int 0) = some (Value.int (bI P)) := by rw [bI_0 h]
theorem so_i {a b : Int32} (h : a = b) : some (Value.int a) = some (Value.int b) := by rw [h]
theorem i_lt {a b : Int32} : a < b ↔ a.toInt < b.toInt := Int32.lt_iff_toInt_lt
theorem i_le {a b : Int32} : a ≤ b ↔ a.toInt ≤ b.toInt := Int32.le_iff_toInt_le
theorem i_eq {a b : Int32} : a = b ↔ a.toInt = b.toInt := Int32.toInt_inj.symm
/-- in a range -/
abbrev inR (v : Int32) (x y : Int) : Prop := x ≤ v.toInt ∧ v.toInt ≤ y
def moH (w : Int32) : Int32 := if w.toInt = 0 then 99 else if w.toInt = 1 then 1 else 9999
def moS (w : Int32) : Int32 := if w.toInt = 1 then 11 else if w.toInt = 2 then 1 else if w.toInt = 5 then 9999 else 99
def heldI (v a b : Int32) : Int32 := if v < a then a else if b < v then b else v
abbrev undK (k a : Int32) : Prop := k.toInt = a.toInt ∨ a.toInt = 0 ∨ (k.toInt = 4 ∧ a.toInt = 1) ∨ (k.toInt = 5 ∧ a.toInt = 2)
abbrev widK (b : Int32) : Prop := b.toInt = 0 ∨ b.toInt = 8 ∨ b.toInt = 16 ∨ b.toInt = 64
abbrev bitK (m i : Int32) : Prop := (m >>> (i &&& 31)) &&& 1 = 1
set_option maxRecDepth 20000 in
set_option maxHeartbeats 2000000 in
theorem c_X4_within (v a b : Int32) (x y : Int) (ha : a.toInt = x) (hb : b.toInt = y) : RunD 0 yX4_within cX4_within 3 (some .boolean) [.int v, .int a, .int b] ([]) (some (.int (bI (inR v x y)))) ([]) := by
  refine Runs.of (by decide) (Nat.le_of_ble_eq_true rfl) rfl ?_
  intro X g hret hnL
  refine v_iload_n (pc := 0) 0 g dX4_within_0 rfl rfl ?_
  refine v_iload_n (pc := 1) 1 g dX4_within_1 rfl rfl ?_
  refine v_icmp_lt (pc := 2) 14 g dX4_within_2 rfl (fun c2 => ?_) (fun c2 => ?_)
  · refine v_iconst (pc := 14) (v := 0) g dX4_within_14 (by decide) ?_
    exact v_zret (pc := 15) g hret dX4_within_15 (by first | exact nb1 | exact nb0 | exact nbI) (by first | (refine ⟨so1 ?_, rfl⟩; simp only [i_lt, i_le, i_eq, Int32.reduceToInt] at *; omega) | (refine ⟨so0 ?_, rfl⟩; simp only [i_lt, i_le, i_eq, Int32.reduceToInt] at *; omega))
  · refine v_iload_n (pc := 5) 0 g dX4_within_5 rfl rfl ?_
    refine v_iload_n (pc := 6) 2 g dX4_within_6 rfl rfl ?_
    refine v_icmp_gt (pc := 7) 14 g dX4_within_7 rfl (fun c7 => ?_) (fun c7 => ?_)
    · refine v_iconst (pc := 14) (v := 0) g dX4_within_14 (by decide) ?_
      exact v_zret (pc := 15) g hret dX4_within_15 (by first | exact nb1 | exact nb0 | exact nbI) (by first | (refine ⟨so1 ?_, rfl⟩; simp only [i_lt, i_le, i_eq, Int32.reduceToInt] at *; omega) | (refine ⟨so0 ?_, rfl⟩; simp only [i_lt, i_le, i_eq, Int32.reduceToInt] at *; omega))
    · refine v_iconst (pc := 10) (v := 1) g dX4_within_10 (by decide) ?_
      refine v_goto (pc := 11) 15 g dX4_within_11 rfl ?_
      exact v_zret (pc := 15) g hret dX4_within_15 (by first | exact nb1 | exact nb0 | exact nbI) (by first | (refine ⟨so1 ?_, rfl⟩; simp only [i_lt, i_le, i_eq, Int32.reduceToInt] at *; omega) | (refine ⟨so0 ?_, rfl⟩; simp only [i_lt, i_le, i_eq, Int32.reduceToInt] at *; omega))
set_option maxRecDepth 20000 in
set_option maxHeartbeats 2000000 in
theorem c_X5_in (v a b : Int32) (x y : Int) (ha : a.toInt = x) (hb : b.toInt = y) : RunD 0 yX5_in cX5_in 3 (some .boolean) [.int v, .int a, .int b] ([]) (some (.int (bI (inR v x y)))) ([]) := by
  refine Runs.of (by decide) (Nat.le_of_ble_eq_true rfl) rfl ?_
  intro X g hret hnL
  refine v_iload_n (pc := 0) 0 g dX5_in_0 rfl rfl ?_
  refine v_iload_n (pc := 1) 1 g dX5_in_1 rfl rfl ?_
  refine v_icmp_lt (pc := 2) 14 g dX5_in_2 rfl (fun c2 => ?_) (fun c2 => ?_)
  · refine v_iconst (pc := 14) (v := 0) g dX5_in_14 (by decide) ?_
    exact v_zret (pc := 15) g hret dX5_in_15 (by first | exact nb1 | exact nb0 | exact nbI) (by first | (refine ⟨so1 ?_, rfl⟩; simp only [i_lt, i_le, i_eq, Int32.reduceToInt] at *; omega) | (refine ⟨so0 ?_, rfl⟩; simp only [i_lt, i_le, i_eq, Int32.reduceToInt] at *; omega))
  · refine v_iload_n (pc := 5) 0 g dX5_in_5 rfl rfl ?_
    refine v_iload_n (pc := 6) 2 g dX5_in_6 rfl rfl ?_
    refine v_icmp_gt (pc := 7) 14 g dX5_in_7 rfl (fun c7 => ?_) (fun c7 => ?_)
    · refine v_iconst (pc := 14) (v := 0) g dX5_in_14 (by decide) ?_
      exact v_zret (pc := 15) g hret dX5_in_15 (by first | exact nb1 | exact nb0 | exact nbI) (by first | (refine ⟨so1 ?_, rfl⟩; simp only [i_lt, i_le, i_eq, Int32.reduceToInt] at *; omega) | (refine ⟨so0 ?_, rfl⟩; simp only [i_lt, i_le, i_eq, Int32.reduceToInt] at *; omega))
    · refine v_iconst (pc := 10) (v := 1) g dX5_in_10 (by decide) ?_
      refine v_goto (pc := 11) 15 g dX5_in_11 rfl ?_
      exact v_zret (pc := 15) g hret dX5_in_15 (by first | exact nb1 | exact nb0 | exact nbI) (by first | (refine ⟨so1 ?_, rfl⟩; simp only [i_lt, i_le, i_eq, Int32.reduceToInt] at *; omega) | (refine ⟨so0 ?_, rfl⟩; simp only [i_lt, i_le, i_eq, Int32.reduceToInt] at *; omega))
set_option maxRecDepth 20000 in
set_option maxHeartbeats 2000000 in
theorem c_X4_isHouse (v : Int32) : RunD 0 yX4_isHouse cX4_isHouse 1 (some .boolean) [.int v] ([]) (some (.int (bI (inR v 0 11)))) ([]) := by
  refine Runs.of (by decide) (Nat.le_of_ble_eq_true rfl) rfl ?_
  intro X g hret hnL
  refine v_iload_n (pc := 0) 0 g dX4_isHouse_0 rfl rfl ?_
  refine v_if_lt (pc := 1) 14 g dX4_isHouse_1 rfl (fun c1 => ?_) (fun c1 => ?_)
  · refine v_iconst (pc := 14) (v := 0) g dX4_isHouse_14 (by decide) ?_
    exact v_zret (pc := 15) g hret dX4_isHouse_15 (by first | exact nb1 | exact nb0 | exact nbI) (by first | (refine ⟨so1 ?_, rfl⟩; simp only [i_lt, i_le, i_eq, Int32.reduceToInt] at *; omega) | (refine ⟨so0 ?_, rfl⟩; simp only [i_lt, i_le, i_eq, Int32.reduceToInt] at *; omega))
  · refine v_iload_n (pc := 4) 0 g dX4_isHouse_4 rfl rfl ?_
    refine v_bipush (pc := 5) (v := 12) g dX4_isHouse_5 (by decide) ?_
    refine v_icmp_ge (pc := 7) 14 g dX4_isHouse_7 rfl (fun c7 => ?_) (fun c7 => ?_)
    · refine v_iconst (pc := 14) (v := 0) g dX4_isHouse_14 (by decide) ?_
      exact v_zret (pc := 15) g hret dX4_isHouse_15 (by first | exact nb1 | exact nb0 | exact nbI) (by first | (refine ⟨so1 ?_, rfl⟩; simp only [i_lt, i_le, i_eq, Int32.reduceToInt] at *; omega) | (refine ⟨so0 ?_, rfl⟩; simp only [i_lt, i_le, i_eq, Int32.reduceToInt] at *; omega))
    · refine v_iconst (pc := 10) (v := 1) g dX4_isHouse_10 (by decide) ?_
      refine v_goto (pc := 11) 15 g dX4_isHouse_11 rfl ?_
      exact v_zret (pc := 15) g hret dX4_isHouse_15 (by first | exact nb1 | exact nb0 | exact nbI) (by first | (refine ⟨so1 ?_, rfl⟩; simp only [i_lt, i_le, i_eq, Int32.reduceToInt] at *; omega) | (refine ⟨so0 ?_, rfl⟩; simp only [i_lt, i_le, i_eq, Int32.reduceToInt] at *; omega))
set_option maxRecDepth 20000 in
set_option maxHeartbeats 2000000 in
theorem c_X4_isKind (v : Int32) : RunD 1 yX4_isKind cX4_isKind 1 (some .boolean) [.int v] ([]) (some (.int (bI (inR v 0 5)))) ([]) := by
  refine Runs.of (by decide) (Nat.le_of_ble_eq_true rfl) rfl ?_
  intro X g hret hnL
  refine v_iload_n (pc := 0) 0 g dX4_isKind_0 rfl rfl ?_
  refine v_iconst (pc := 1) (v := 0) g dX4_isKind_1 (by decide) ?_
  refine v_iconst (pc := 2) (v := 5) g dX4_isKind_2 (by decide) ?_
  refine v_cSd (pc := 3) g dX4_isKind_3 lk_X4_55 ((c_X4_within _ _ _ 0 5 rfl rfl).any rfl rfl _) (Nat.le_of_ble_eq_true rfl) rfl rfl (Nat.le_of_ble_eq_true rfl) ?_
  exact v_zret (pc := 6) g hret dX4_isKind_6 (by first | exact nb1 | exact nb0 | exact nbI) (⟨rfl, rfl⟩)
set_option maxRecDepth 20000 in
set_option maxHeartbeats 2000000 in
theorem c_X4_isSheet (v : Int32) : RunD 1 yX4_isSheet cX4_isSheet 1 (some .boolean) [.int v] ([]) (some (.int (bI (inR v 0 3)))) ([]) := by
  refine Runs.of (by decide) (Nat.le_of_ble_eq_true rfl) rfl ?_
  intro X g hret hnL
  refine v_iload_n (pc := 0) 0 g dX4_isSheet_0 rfl rfl ?_
  refine v_iconst (pc := 1) (v := 0) g dX4_isSheet_1 (by decide) ?_
  refine v_iconst (pc := 2) (v := 3) g dX4_isSheet_2 (by decide) ?_
  refine v_cSd (pc := 3) g dX4_isSheet_3 lk_X4_55 ((c_X4_within _ _ _ 0 3 rfl rfl).any rfl rfl _) (Nat.le_of_ble_eq_true rfl) rfl rfl (Nat.le_of_ble_eq_true rfl) ?_
  exact v_zret (pc := 6) g hret dX4_isSheet_6 (by first | exact nb1 | exact nb0 | exact nbI) (⟨rfl, rfl⟩)
set_option maxRecDepth 20000 in
set_option maxHeartbeats 2000000 in
theorem c_X5_isHouse (v : Int32) : RunD 1 yX5_isHouse cX5_isHouse 1 (some .boolean) [.int v] ([]) (some (.int (bI (inR v 0 11)))) ([]) := by
  refine Runs.of (by decide) (Nat.le_of_ble_eq_true rfl) rfl ?_
  intro X g hret hnL
  refine v_iload_n (pc := 0) 0 g dX5_isHouse_0 rfl rfl ?_
  refine v_iconst (pc := 1) (v := 0) g dX5_isHouse_1 (by decide) ?_
  refine v_bipush (pc := 2) (v := 11) g dX5_isHouse_2 (by decide) ?_
  refine v_cSd (pc := 4) g dX5_isHouse_4 lk_X5_45 ((c_X5_in _ _ _ 0 11 rfl rfl).any rfl rfl _) (Nat.le_of_ble_eq_true rfl) rfl rfl (Nat.le_of_ble_eq_true rfl) ?_
  exact v_zret (pc := 7) g hret dX5_isHouse_7 (by first | exact nb1 | exact nb0 | exact nbI) (⟨rfl, rfl⟩)
set_option maxRecDepth 20000 in
set_option maxHeartbeats 2000000 in
theorem c_X5_isKind (v : Int32) : RunD 1 yX5_isKind cX5_isKind 1 (some .boolean) [.int v] ([]) (some (.int (bI (inR v 0 5)))) ([]) := by
  refine Runs.of (by decide) (Nat.le_of_ble_eq_true rfl) rfl ?_
  intro X g hret hnL
  refine v_iload_n (pc := 0) 0 g dX5_isKind_0 rfl rfl ?_
  refine v_iconst (pc := 1) (v := 0) g dX5_isKind_1 (by decide) ?_
  refine v_iconst (pc := 2) (v := 5) g dX5_isKind_2 (by decide) ?_
  refine v_cSd (pc := 3) g dX5_isKind_3 lk_X5_45 ((c_X5_in _ _ _ 0 5 rfl rfl).any rfl rfl _) (Nat.le_of_ble_eq_true rfl) rfl rfl (Nat.le_of_ble_eq_true rfl) ?_
  exact v_zret (pc := 6) g hret dX5_isKind_6 (by first | exact nb1 | exact nb0 | exact nbI) (⟨rfl, rfl⟩)
set_option maxRecDepth 20000 in
set_option maxHeartbeats 2000000 in
theorem c_X5_isSheet (v : Int32) : RunD 1 yX5_isSheet cX5_isSheet 1 (some .boolean) [.int v] ([]) (some (.int (bI (inR v 0 3)))) ([]) := by
  refine Runs.of (by decide) (Nat.le_of_ble_eq_true rfl) rfl ?_
  intro X g hret hnL
  refine v_iload_n (pc := 0) 0 g dX5_isSheet_0 rfl rfl ?_
  refine v_iconst (pc := 1) (v := 0) g dX5_isSheet_1 (by decide) ?_
  refine v_iconst (pc := 2) (v := 3) g dX5_isSheet_2 (by decide) ?_
  refine v_cSd (pc := 3) g dX5_isSheet_3 lk_X5_45 ((c_X5_in _ _ _ 0 3 rfl rfl).any rfl rfl _) (Nat.le_of_ble_eq_true rfl) rfl rfl (Nat.le_of_ble_eq_true rfl) ?_
  exact v_zret (pc := 6) g hret dX5_isSheet_6 (by first | exact nb1 | exact nb0 | exact nbI) (⟨rfl, rfl⟩)
set_option maxRecDepth 20000 in
set_option maxHeartbeats 2000000 in
theorem c_X5_isLetter (v : Int32) : RunD 1 yX5_isLetter cX5_isLetter 1 (some .boolean) [.int v] ([]) (some (.int (bI (inR v 97 122)))) ([]) := by
  refine Runs.of (by decide) (Nat.le_of_ble_eq_true rfl) rfl ?_
  intro X g hret hnL
  refine v_iload_n (pc := 0) 0 g dX5_isLetter_0 rfl rfl ?_
  refine v_bipush (pc := 1) (v := 97) g dX5_isLetter_1 (by decide) ?_
  refine v_bipush (pc := 3) (v := 122) g dX5_isLetter_3 (by decide) ?_
  refine v_cSd (pc := 5) g dX5_isLetter_5 lk_X5_45 ((c_X5_in _ _ _ 97 122 rfl rfl).any rfl rfl _) (Nat.le_of_ble_eq_true rfl) rfl rfl (Nat.le_of_ble_eq_true rfl) ?_
  exact v_zret (pc := 8) g hret dX5_isLetter_8 (by first | exact nb1 | exact nb0 | exact nbI) (⟨rfl, rfl⟩)
set_option maxRecDepth 20000 in
set_option maxHeartbeats 2000000 in
theorem c_X5_isDigit (v : Int32) : RunD 1 yX5_isDigit cX5_isDigit 1 (some .boolean) [.int v] ([]) (some (.int (bI (inR v 48 57)))) ([]) := by
  refine Runs.of (by decide) (Nat.le_of_ble_eq_true rfl) rfl ?_
  intro X g hret hnL
  refine v_iload_n (pc := 0) 0 g dX5_isDigit_0 rfl rfl ?_
  refine v_bipush (pc := 1) (v := 48) g dX5_isDigit_1 (by decide) ?_
  refine v_bipush (pc := 3) (v := 57) g dX5_isDigit_3 (by decide) ?_
  refine v_cSd (pc := 5) g dX5_isDigit_5 lk_X5_45 ((c_X5_in _ _ _ 48 57 rfl rfl).any rfl rfl _) (Nat.le_of_ble_eq_true rfl) rfl rfl (Nat.le_of_ble_eq_true rfl) ?_
  exact v_zret (pc := 8) g hret dX5_isDigit_8 (by first | exact nb1 | exact nb0 | exact nbI) (⟨rfl, rfl⟩)
set_option maxRecDepth 20000 in
set_option maxHeartbeats 2000000 in
theorem c_X3_isLetter (v : Int32) : RunD 0 yX3_isLetter cX3_isLetter 1 (some .boolean) [.int v] ([]) (some (.int (bI (inR v 97 122)))) ([]) := by
  refine Runs.of (by decide) (Nat.le_of_ble_eq_true rfl) rfl ?_
  intro X g hret hnL
  refine v_iload_n (pc := 0) 0 g dX3_isLetter_0 rfl rfl ?_
  refine v_bipush (pc := 1) (v := 97) g dX3_isLetter_1 (by decide) ?_
  refine v_icmp_lt (pc := 3) 16 g dX3_isLetter_3 rfl (fun c3 => ?_) (fun c3 => ?_)
  · refine v_iconst (pc := 16) (v := 0) g dX3_isLetter_16 (by decide) ?_
    exact v_zret (pc := 17) g hret dX3_isLetter_17 (by first | exact nb1 | exact nb0 | exact nbI) (by first | (refine ⟨so1 ?_, rfl⟩; simp only [i_lt, i_le, i_eq, Int32.reduceToInt] at *; omega) | (refine ⟨so0 ?_, rfl⟩; simp only [i_lt, i_le, i_eq, Int32.reduceToInt] at *; omega))
  · refine v_iload_n (pc := 6) 0 g dX3_isLetter_6 rfl rfl ?_
    refine v_bipush (pc := 7) (v := 122) g dX3_isLetter_7 (by decide) ?_
    refine v_icmp_gt (pc := 9) 16 g dX3_isLetter_9 rfl (fun c9 => ?_) (fun c9 => ?_)
    · refine v_iconst (pc := 16) (v := 0) g dX3_isLetter_16 (by decide) ?_
      exact v_zret (pc := 17) g hret dX3_isLetter_17 (by first | exact nb1 | exact nb0 | exact nbI) (by first | (refine ⟨so1 ?_, rfl⟩; simp only [i_lt, i_le, i_eq, Int32.reduceToInt] at *; omega) | (refine ⟨so0 ?_, rfl⟩; simp only [i_lt, i_le, i_eq, Int32.reduceToInt] at *; omega))
    · refine v_iconst (pc := 12) (v := 1) g dX3_isLetter_12 (by decide) ?_
      refine v_goto (pc := 13) 17 g dX3_isLetter_13 rfl ?_
      exact v_zret (pc := 17) g hret dX3_isLetter_17 (by first | exact nb1 | exact nb0 | exact nbI) (by first | (refine ⟨so1 ?_, rfl⟩; simp only [i_lt, i_le, i_eq, Int32.reduceToInt] at *; omega) | (refine ⟨so0 ?_, rfl⟩; simp only [i_lt, i_le, i_eq, Int32.reduceToInt] at *; omega))
set_option maxRecDepth 20000 in
set_option maxHeartbeats 2000000 in
theorem c_X3_isDigit (v : Int32) : RunD 0 yX3_isDigit cX3_isDigit 1 (some .boolean) [.int v] ([]) (some (.int (bI (inR v 48 57)))) ([]) := by
  refine Runs.of (by decide) (Nat.le_of_ble_eq_true rfl) rfl ?_
  intro X g hret hnL
  refine v_iload_n (pc := 0) 0 g dX3_isDigit_0 rfl rfl ?_
  refine v_bipush (pc := 1) (v := 48) g dX3_isDigit_1 (by decide) ?_
  refine v_icmp_lt (pc := 3) 16 g dX3_isDigit_3 rfl (fun c3 => ?_) (fun c3 => ?_)
  · refine v_iconst (pc := 16) (v := 0) g dX3_isDigit_16 (by decide) ?_
    exact v_zret (pc := 17) g hret dX3_isDigit_17 (by first | exact nb1 | exact nb0 | exact nbI) (by first | (refine ⟨so1 ?_, rfl⟩; simp only [i_lt, i_le, i_eq, Int32.reduceToInt] at *; omega) | (refine ⟨so0 ?_, rfl⟩; simp only [i_lt, i_le, i_eq, Int32.reduceToInt] at *; omega))
  · refine v_iload_n (pc := 6) 0 g dX3_isDigit_6 rfl rfl ?_
    refine v_bipush (pc := 7) (v := 57) g dX3_isDigit_7 (by decide) ?_
    refine v_icmp_gt (pc := 9) 16 g dX3_isDigit_9 rfl (fun c9 => ?_) (fun c9 => ?_)
    · refine v_iconst (pc := 16) (v := 0) g dX3_isDigit_16 (by decide) ?_
      exact v_zret (pc := 17) g hret dX3_isDigit_17 (by first | exact nb1 | exact nb0 | exact nbI) (by first | (refine ⟨so1 ?_, rfl⟩; simp only [i_lt, i_le, i_eq, Int32.reduceToInt] at *; omega) | (refine ⟨so0 ?_, rfl⟩; simp only [i_lt, i_le, i_eq, Int32.reduceToInt] at *; omega))
    · refine v_iconst (pc := 12) (v := 1) g dX3_isDigit_12 (by decide) ?_
      refine v_goto (pc := 13) 17 g dX3_isDigit_13 rfl ?_
      exact v_zret (pc := 17) g hret dX3_isDigit_17 (by first | exact nb1 | exact nb0 | exact nbI) (by first | (refine ⟨so1 ?_, rfl⟩; simp only [i_lt, i_le, i_eq, Int32.reduceToInt] at *; omega) | (refine ⟨so0 ?_, rfl⟩; simp only [i_lt, i_le, i_eq, Int32.reduceToInt] at *; omega))
set_option maxRecDepth 20000 in
set_option maxHeartbeats 2000000 in
theorem c_X4_isWidth (v : Int32) : RunD 0 yX4_isWidth cX4_isWidth 1 (some .boolean) [.int v] ([]) (some (.int (bI (widK v)))) ([]) := by
  refine Runs.of (by decide) (Nat.le_of_ble_eq_true rfl) rfl ?_
  intro X g hret hnL
  refine v_iload_n (pc := 0) 0 g dX4_isWidth_0 rfl rfl ?_
  refine v_if_eq (pc := 1) 22 g dX4_isWidth_1 rfl (fun c1 => ?_) (fun c1 => ?_)
  · refine v_iconst (pc := 22) (v := 1) g dX4_isWidth_22 (by decide) ?_
    refine v_goto (pc := 23) 27 g dX4_isWidth_23 rfl ?_
    exact v_zret (pc := 27) g hret dX4_isWidth_27 (by first | exact nb1 | exact nb0 | exact nbI) (by first | (refine ⟨so1 ?_, rfl⟩; simp only [i_lt, i_le, i_eq, Int32.reduceToInt] at *; omega) | (refine ⟨so0 ?_, rfl⟩; simp only [i_lt, i_le, i_eq, Int32.reduceToInt] at *; omega))
  · refine v_iload_n (pc := 4) 0 g dX4_isWidth_4 rfl rfl ?_
    refine v_bipush (pc := 5) (v := 8) g dX4_isWidth_5 (by decide) ?_
    refine v_icmp_eq (pc := 7) 22 g dX4_isWidth_7 rfl (fun c7 => ?_) (fun c7 => ?_)
    · refine v_iconst (pc := 22) (v := 1) g dX4_isWidth_22 (by decide) ?_
      refine v_goto (pc := 23) 27 g dX4_isWidth_23 rfl ?_
      exact v_zret (pc := 27) g hret dX4_isWidth_27 (by first | exact nb1 | exact nb0 | exact nbI) (by first | (refine ⟨so1 ?_, rfl⟩; simp only [i_lt, i_le, i_eq, Int32.reduceToInt] at *; omega) | (refine ⟨so0 ?_, rfl⟩; simp only [i_lt, i_le, i_eq, Int32.reduceToInt] at *; omega))
    · refine v_iload_n (pc := 10) 0 g dX4_isWidth_10 rfl rfl ?_
      refine v_bipush (pc := 11) (v := 16) g dX4_isWidth_11 (by decide) ?_
      refine v_icmp_eq (pc := 13) 22 g dX4_isWidth_13 rfl (fun c13 => ?_) (fun c13 => ?_)
      · refine v_iconst (pc := 22) (v := 1) g dX4_isWidth_22 (by decide) ?_
        refine v_goto (pc := 23) 27 g dX4_isWidth_23 rfl ?_
        exact v_zret (pc := 27) g hret dX4_isWidth_27 (by first | exact nb1 | exact nb0 | exact nbI) (by first | (refine ⟨so1 ?_, rfl⟩; simp only [i_lt, i_le, i_eq, Int32.reduceToInt] at *; omega) | (refine ⟨so0 ?_, rfl⟩; simp only [i_lt, i_le, i_eq, Int32.reduceToInt] at *; omega))
      · refine v_iload_n (pc := 16) 0 g dX4_isWidth_16 rfl rfl ?_
        refine v_bipush (pc := 17) (v := 64) g dX4_isWidth_17 (by decide) ?_
        refine v_icmp_ne (pc := 19) 26 g dX4_isWidth_19 rfl (fun c19 => ?_) (fun c19 => ?_)
        · refine v_iconst (pc := 26) (v := 0) g dX4_isWidth_26 (by decide) ?_
          exact v_zret (pc := 27) g hret dX4_isWidth_27 (by first | exact nb1 | exact nb0 | exact nbI) (by first | (refine ⟨so1 ?_, rfl⟩; simp only [i_lt, i_le, i_eq, Int32.reduceToInt] at *; omega) | (refine ⟨so0 ?_, rfl⟩; simp only [i_lt, i_le, i_eq, Int32.reduceToInt] at *; omega))
        · refine v_iconst (pc := 22) (v := 1) g dX4_isWidth_22 (by decide) ?_
          refine v_goto (pc := 23) 27 g dX4_isWidth_23 rfl ?_
          exact v_zret (pc := 27) g hret dX4_isWidth_27 (by first | exact nb1 | exact nb0 | exact nbI) (by first | (refine ⟨so1 ?_, rfl⟩; simp only [i_lt, i_le, i_eq, Int32.reduceToInt] at *; omega) | (refine ⟨so0 ?_, rfl⟩; simp only [i_lt, i_le, i_eq, Int32.reduceToInt] at *; omega))
set_option maxRecDepth 20000 in
set_option maxHeartbeats 2000000 in
theorem c_X4_isUnder (k v : Int32) : RunD 0 yX4_isUnder cX4_isUnder 2 (some .boolean) [.int k, .int v] ([]) (some (.int (bI (undK k v)))) ([]) := by
  refine Runs.of (by decide) (Nat.le_of_ble_eq_true rfl) rfl ?_
  intro X g hret hnL
  refine v_iload_n (pc := 0) 0 g dX4_isUnder_0 rfl rfl ?_
  refine v_iload_n (pc := 1) 1 g dX4_isUnder_1 rfl rfl ?_
  refine v_icmp_eq (pc := 2) 29 g dX4_isUnder_2 rfl (fun c2 => ?_) (fun c2 => ?_)
  · refine v_iconst (pc := 29) (v := 1) g dX4_isUnder_29 (by decide) ?_
    refine v_goto (pc := 30) 34 g dX4_isUnder_30 rfl ?_
    exact v_zret (pc := 34) g hret dX4_isUnder_34 (by first | exact nb1 | exact nb0 | exact nbI) (by first | (refine ⟨so1 ?_, rfl⟩; simp only [i_lt, i_le, i_eq, Int32.reduceToInt] at *; omega) | (refine ⟨so0 ?_, rfl⟩; simp only [i_lt, i_le, i_eq, Int32.reduceToInt] at *; omega))
  · refine v_iload_n (pc := 5) 1 g dX4_isUnder_5 rfl rfl ?_
    refine v_if_eq (pc := 6) 29 g dX4_isUnder_6 rfl (fun c6 => ?_) (fun c6 => ?_)
    · refine v_iconst (pc := 29) (v := 1) g dX4_isUnder_29 (by decide) ?_
      refine v_goto (pc := 30) 34 g dX4_isUnder_30 rfl ?_
      exact v_zret (pc := 34) g hret dX4_isUnder_34 (by first | exact nb1 | exact nb0 | exact nbI) (by first | (refine ⟨so1 ?_, rfl⟩; simp only [i_lt, i_le, i_eq, Int32.reduceToInt] at *; omega) | (refine ⟨so0 ?_, rfl⟩; simp only [i_lt, i_le, i_eq, Int32.reduceToInt] at *; omega))
    · refine v_iload_n (pc := 9) 0 g dX4_isUnder_9 rfl rfl ?_
      refine v_iconst (pc := 10) (v := 4) g dX4_isUnder_10 (by decide) ?_
      refine v_icmp_ne (pc := 11) 19 g dX4_isUnder_11 rfl (fun c11 => ?_) (fun c11 => ?_)
      · refine v_iload_n (pc := 19) 0 g dX4_isUnder_19 rfl rfl ?_
        refine v_iconst (pc := 20) (v := 5) g dX4_isUnder_20 (by decide) ?_
        refine v_icmp_ne (pc := 21) 33 g dX4_isUnder_21 rfl (fun c21 => ?_) (fun c21 => ?_)
        · refine v_iconst (pc := 33) (v := 0) g dX4_isUnder_33 (by decide) ?_
          exact v_zret (pc := 34) g hret dX4_isUnder_34 (by first | exact nb1 | exact nb0 | exact nbI) (by first | (refine ⟨so1 ?_, rfl⟩; simp only [i_lt, i_le, i_eq, Int32.reduceToInt] at *; omega) | (refine ⟨so0 ?_, rfl⟩; simp only [i_lt, i_le, i_eq, Int32.reduceToInt] at *; omega))
        · refine v_iload_n (pc := 24) 1 g dX4_isUnder_24 rfl rfl ?_
          refine v_iconst (pc := 25) (v := 2) g dX4_isUnder_25 (by decide) ?_
          refine v_icmp_ne (pc := 26) 33 g dX4_isUnder_26 rfl (fun c26 => ?_) (fun c26 => ?_)
          · refine v_iconst (pc := 33) (v := 0) g dX4_isUnder_33 (by decide) ?_
            exact v_zret (pc := 34) g hret dX4_isUnder_34 (by first | exact nb1 | exact nb0 | exact nbI) (by first | (refine ⟨so1 ?_, rfl⟩; simp only [i_lt, i_le, i_eq, Int32.reduceToInt] at *; omega) | (refine ⟨so0 ?_, rfl⟩; simp only [i_lt, i_le, i_eq, Int32.reduceToInt] at *; omega))
          · refine v_iconst (pc := 29) (v := 1) g dX4_isUnder_29 (by decide) ?_
            refine v_goto (pc := 30) 34 g dX4_isUnder_30 rfl ?_
            exact v_zret (pc := 34) g hret dX4_isUnder_34 (by first | exact nb1 | exact nb0 | exact nbI) (by first | (refine ⟨so1 ?_, rfl⟩; simp only [i_lt, i_le, i_eq, Int32.reduceToInt] at *; omega) | (refine ⟨so0 ?_, rfl⟩; simp only [i_lt, i_le, i_eq, Int32.reduceToInt] at *; omega))
      · refine v_iload_n (pc := 14) 1 g dX4_isUnder_14 rfl rfl ?_
        refine v_iconst (pc := 15) (v := 1) g dX4_isUnder_15 (by decide) ?_
        refine v_icmp_eq (pc := 16) 29 g dX4_isUnder_16 rfl (fun c16 => ?_) (fun c16 => ?_)
        · refine v_iconst (pc := 29) (v := 1) g dX4_isUnder_29 (by decide) ?_
          refine v_goto (pc := 30) 34 g dX4_isUnder_30 rfl ?_
          exact v_zret (pc := 34) g hret dX4_isUnder_34 (by first | exact nb1 | exact nb0 | exact nbI) (by first | (refine ⟨so1 ?_, rfl⟩; simp only [i_lt, i_le, i_eq, Int32.reduceToInt] at *; omega) | (refine ⟨so0 ?_, rfl⟩; simp only [i_lt, i_le, i_eq, Int32.reduceToInt] at *; omega))
        · refine v_iload_n (pc := 19) 0 g dX4_isUnder_19 rfl rfl ?_
          refine v_iconst (pc := 20) (v := 5) g dX4_isUnder_20 (by decide) ?_
          refine v_icmp_ne (pc := 21) 33 g dX4_isUnder_21 rfl (fun c21 => ?_) (fun c21 => ?_)
          · refine v_iconst (pc := 33) (v := 0) g dX4_isUnder_33 (by decide) ?_
            exact v_zret (pc := 34) g hret dX4_isUnder_34 (by first | exact nb1 | exact nb0 | exact nbI) (by first | (refine ⟨so1 ?_, rfl⟩; simp only [i_lt, i_le, i_eq, Int32.reduceToInt] at *; omega) | (refine ⟨so0 ?_, rfl⟩; simp only [i_lt, i_le, i_eq, Int32.reduceToInt] at *; omega))
          · refine v_iload_n (pc := 24) 1 g dX4_isUnder_24 rfl rfl ?_
            refine v_iconst (pc := 25) (v := 2) g dX4_isUnder_25 (by decide) ?_
            refine v_icmp_ne (pc := 26) 33 g dX4_isUnder_26 rfl (fun c26 => ?_) (fun c26 => ?_)
            · refine v_iconst (pc := 33) (v := 0) g dX4_isUnder_33 (by decide) ?_
              exact v_zret (pc := 34) g hret dX4_isUnder_34 (by first | exact nb1 | exact nb0 | exact nbI) (by first | (refine ⟨so1 ?_, rfl⟩; simp only [i_lt, i_le, i_eq, Int32.reduceToInt] at *; omega) | (refine ⟨so0 ?_, rfl⟩; simp only [i_lt, i_le, i_eq, Int32.reduceToInt] at *; omega))
            · refine v_iconst (pc := 29) (v := 1) g dX4_isUnder_29 (by decide) ?_
              refine v_goto (pc := 30) 34 g dX4_isUnder_30 rfl ?_
              exact v_zret (pc := 34) g hret dX4_isUnder_34 (by first | exact nb1 | exact nb0 | exact nbI) (by first | (refine ⟨so1 ?_, rfl⟩; simp only [i_lt, i_le, i_eq, Int32.reduceToInt] at *; omega) | (refine ⟨so0 ?_, rfl⟩; simp only [i_lt, i_le, i_eq, Int32.reduceToInt] at *; omega))
set_option maxRecDepth 20000 in
set_option maxHeartbeats 2000000 in
theorem c_X4_isIn (k v : Int32) : RunD 0 yX4_isIn cX4_isIn 2 (some .boolean) [.int k, .int v] ([]) (some (.int (bI (bitK k v)))) ([]) := by
  refine Runs.of (by decide) (Nat.le_of_ble_eq_true rfl) rfl ?_
  intro X g hret hnL
  refine v_iload_n (pc := 0) 0 g dX4_isIn_0 rfl rfl ?_
  refine v_iload_n (pc := 1) 1 g dX4_isIn_1 rfl rfl ?_
  refine v_ishr (pc := 2) g dX4_isIn_2 ?_
  refine v_iconst (pc := 3) (v := 1) g dX4_isIn_3 (by decide) ?_
  refine v_iand (pc := 4) g dX4_isIn_4 ?_
  refine v_iconst (pc := 5) (v := 1) g dX4_isIn_5 (by decide) ?_
  refine v_icmp_ne (pc := 6) 13 g dX4_isIn_6 rfl (fun c6 => ?_) (fun c6 => ?_)
  · refine v_iconst (pc := 13) (v := 0) g dX4_isIn_13 (by decide) ?_
    exact v_zret (pc := 14) g hret dX4_isIn_14 (by first | exact nb1 | exact nb0 | exact nbI) (by first | exact ⟨so1 c6, rfl⟩ | exact ⟨so0 c6, rfl⟩)
  · refine v_iconst (pc := 9) (v := 1) g dX4_isIn_9 (by decide) ?_
    refine v_goto (pc := 10) 14 g dX4_isIn_10 rfl ?_
    exact v_zret (pc := 14) g hret dX4_isIn_14 (by first | exact nb1 | exact nb0 | exact nbI) (by first | exact ⟨so1 c6, rfl⟩ | exact ⟨so0 c6, rfl⟩)
set_option maxRecDepth 20000 in
set_option maxHeartbeats 2000000 in
theorem c_X4_mostOfHouse (v : Int32) : RunD 0 yX4_mostOfHouse cX4_mostOfHouse 1 (some .int) [.int v] ([]) (some (.int (moH v))) ([]) := by
  refine Runs.of (by decide) (Nat.le_of_ble_eq_true rfl) rfl ?_
  intro X g hret hnL
  refine v_iload_n (pc := 0) 0 g dX4_mostOfHouse_0 rfl rfl ?_
  refine v_top (fun x1 e1 => ?_)
  by_cases t1_0 : x1.toInt = 0
  · refine v_lk (pc := 1) 28 g dX4_mostOfHouse_1 rfl (by rw [t1_0]) rfl ?_
    rw [e1] at t1_0
    refine v_bipush (pc := 28) (v := 99) g dX4_mostOfHouse_28 (by decide) ?_
    exact v_iret (pc := 30) g hret dX4_mostOfHouse_30 (by simp [moH, *])
  by_cases t1_1 : x1.toInt = 1
  · refine v_lk (pc := 1) 31 g dX4_mostOfHouse_1 rfl (by rw [t1_1]) rfl ?_
    rw [e1] at t1_1
    refine v_iconst (pc := 31) (v := 1) g dX4_mostOfHouse_31 (by decide) ?_
    exact v_iret (pc := 32) g hret dX4_mostOfHouse_32 (by simp [moH, *])
  refine v_lk (pc := 1) (off := 32) 33 g dX4_mostOfHouse_1 rfl (by show Op.lookupswitch.offset [(0, 27), (1, 30)] 32 _ = 32; rw [Op.lookupswitch.offset_cons, if_neg (fun h => t1_0 h.symm), Op.lookupswitch.offset_cons, if_neg (fun h => t1_1 h.symm), Op.lookupswitch.offset_nil]) rfl ?_
  rw [e1] at t1_0
  rw [e1] at t1_1
  refine v_sipush (pc := 33) (v := 9999) g dX4_mostOfHouse_33 (by decide) ?_
  exact v_iret (pc := 36) g hret dX4_mostOfHouse_36 (by simp [moH, *])
set_option maxRecDepth 20000 in
set_option maxHeartbeats 2000000 in
theorem c_X4_mostOfSneezer (v : Int32) : RunD 0 yX4_mostOfSneezer cX4_mostOfSneezer 1 (some .int) [.int v] ([]) (some (.int (moS v))) ([]) := by
  refine Runs.of (by decide) (Nat.le_of_ble_eq_true rfl) rfl ?_
  intro X g hret hnL
  refine v_iload_n (pc := 0) 0 g dX4_mostOfSneezer_0 rfl rfl ?_
  refine v_top (fun x1 e1 => ?_)
  by_cases t1_1 : x1.toInt = 1
  · refine v_tin (pc := 1) 1 36 g dX4_mostOfSneezer_1 t1_1 (by decide) (by decide) rfl rfl ?_
    rw [e1] at t1_1
    refine v_bipush (pc := 36) (v := 11) g dX4_mostOfSneezer_36 (by decide) ?_
    exact v_iret (pc := 38) g hret dX4_mostOfSneezer_38 (by simp [moS, *])
  by_cases t1_2 : x1.toInt = 2
  · refine v_tin (pc := 1) 2 39 g dX4_mostOfSneezer_1 t1_2 (by decide) (by decide) rfl rfl ?_
    rw [e1] at t1_2
    refine v_iconst (pc := 39) (v := 1) g dX4_mostOfSneezer_39 (by decide) ?_
    exact v_iret (pc := 40) g hret dX4_mostOfSneezer_40 (by simp [moS, *])
  by_cases t1_5 : x1.toInt = 5
  · refine v_tin (pc := 1) 5 41 g dX4_mostOfSneezer_1 t1_5 (by decide) (by decide) rfl rfl ?_
    rw [e1] at t1_5
    refine v_sipush (pc := 41) (v := 9999) g dX4_mostOfSneezer_41 (by decide) ?_
    exact v_iret (pc := 44) g hret dX4_mostOfSneezer_44 (by simp [moS, *])
  by_cases t1_3 : x1.toInt = 3
  · refine v_tin (pc := 1) 3 45 g dX4_mostOfSneezer_1 t1_3 (by decide) (by decide) rfl rfl ?_
    rw [e1] at t1_3
    refine v_bipush (pc := 45) (v := 99) g dX4_mostOfSneezer_45 (by decide) ?_
    exact v_iret (pc := 47) g hret dX4_mostOfSneezer_47 (by simp [moS, *])
  by_cases t1_4 : x1.toInt = 4
  · refine v_tin (pc := 1) 4 45 g dX4_mostOfSneezer_1 t1_4 (by decide) (by decide) rfl rfl ?_
    rw [e1] at t1_4
    refine v_bipush (pc := 45) (v := 99) g dX4_mostOfSneezer_45 (by decide) ?_
    exact v_iret (pc := 47) g hret dX4_mostOfSneezer_47 (by simp [moS, *])
  refine v_tout (pc := 1) 45 g dX4_mostOfSneezer_1 (by omega) rfl ?_
  rw [e1] at t1_1
  rw [e1] at t1_2
  rw [e1] at t1_5
  rw [e1] at t1_3
  rw [e1] at t1_4
  refine v_bipush (pc := 45) (v := 99) g dX4_mostOfSneezer_45 (by decide) ?_
  exact v_iret (pc := 47) g hret dX4_mostOfSneezer_47 (by simp [moS, *])
set_option maxRecDepth 20000 in
set_option maxHeartbeats 2000000 in
theorem c_X5_held (v a b : Int32) : RunD 0 yX5_held cX5_held 3 (some .int) [.int v, .int a, .int b] ([]) (some (.int (heldI v a b))) ([]) := by
  refine Runs.of (by decide) (Nat.le_of_ble_eq_true rfl) rfl ?_
  intro X g hret hnL
  refine v_iload_n (pc := 0) 0 g dX5_held_0 rfl rfl ?_
  refine v_iload_n (pc := 1) 1 g dX5_held_1 rfl rfl ?_
  refine v_icmp_ge (pc := 2) 9 g dX5_held_2 rfl (fun c2 => ?_) (fun c2 => ?_)
  · refine v_iload_n (pc := 9) 0 g dX5_held_9 rfl rfl ?_
    refine v_iload_n (pc := 10) 2 g dX5_held_10 rfl rfl ?_
    refine v_icmp_le (pc := 11) 18 g dX5_held_11 rfl (fun c11 => ?_) (fun c11 => ?_)
    · refine v_iload_n (pc := 18) 0 g dX5_held_18 rfl rfl ?_
      exact v_iret (pc := 19) g hret dX5_held_19 (⟨so_i (by unfold heldI; simp only [i_lt, i_le] at *; (repeat' split) <;> first | rfl | omega), rfl⟩)
    · refine v_iload_n (pc := 14) 2 g dX5_held_14 rfl rfl ?_
      refine v_goto (pc := 15) 19 g dX5_held_15 rfl ?_
      exact v_iret (pc := 19) g hret dX5_held_19 (⟨so_i (by unfold heldI; simp only [i_lt, i_le] at *; (repeat' split) <;> first | rfl | omega), rfl⟩)
  · refine v_iload_n (pc := 5) 1 g dX5_held_5 rfl rfl ?_
    refine v_goto (pc := 6) 19 g dX5_held_6 rfl ?_
    exact v_iret (pc := 19) g hret dX5_held_19 (⟨so_i (by unfold heldI; simp only [i_lt, i_le] at *; (repeat' split) <;> first | rfl | omega), rfl⟩)
set_option maxRecDepth 20000 in
set_option maxHeartbeats 2000000 in
theorem c_X5_mostOf (v : Int32) : RunD 0 yX5_mostOf cX5_mostOf 1 (some .int) [.int v] ([]) (some (.int (moH v))) ([]) := by
  refine Runs.of (by decide) (Nat.le_of_ble_eq_true rfl) rfl ?_
  intro X g hret hnL
  refine v_iload_n (pc := 0) 0 g dX5_mostOf_0 rfl rfl ?_
  refine v_if_ne (pc := 1) 9 g dX5_mostOf_1 rfl (fun c1 => ?_) (fun c1 => ?_)
  · refine v_iload_n (pc := 9) 0 g dX5_mostOf_9 rfl rfl ?_
    refine v_iconst (pc := 10) (v := 1) g dX5_mostOf_10 (by decide) ?_
    refine v_icmp_ne (pc := 11) 18 g dX5_mostOf_11 rfl (fun c11 => ?_) (fun c11 => ?_)
    · refine v_sipush (pc := 18) (v := 9999) g dX5_mostOf_18 (by decide) ?_
      exact v_iret (pc := 21) g hret dX5_mostOf_21 (by simp only [i_eq, Int32.reduceToInt] at *; simp [moH, *])
    · refine v_iconst (pc := 14) (v := 1) g dX5_mostOf_14 (by decide) ?_
      refine v_goto (pc := 15) 21 g dX5_mostOf_15 rfl ?_
      exact v_iret (pc := 21) g hret dX5_mostOf_21 (by simp only [i_eq, Int32.reduceToInt] at *; simp [moH, *])
  · refine v_bipush (pc := 4) (v := 99) g dX5_mostOf_4 (by decide) ?_
    refine v_goto (pc := 6) 21 g dX5_mostOf_6 rfl ?_
    exact v_iret (pc := 21) g hret dX5_mostOf_21 (by simp only [i_eq, Int32.reduceToInt] at *; simp [moH, *])
