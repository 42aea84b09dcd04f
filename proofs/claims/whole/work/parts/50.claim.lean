theorem nw_L_7 : NW RL 7 4 8 [.null, .null, .null, .null, .null, .null, .null, .int 0] := ⟨RX4, TX4, tyX4, cl_X4, tbG_in (List.mem_of_getElem? (i := 76) (by decide +kernel)) (by decide +kernel), tbG_in (List.mem_of_getElem? (i := 77) (by decide +kernel)) (by decide +kernel), tbG_in (List.mem_of_getElem? (i := 64) (by decide +kernel)) (by decide +kernel), fun j hj => by match j, hj with
  | 0, _ => rfl
  | 1, _ => rfl
  | 2, _ => rfl
  | 3, _ => rfl
  | 4, _ => rfl
  | 5, _ => rfl
  | 6, _ => rfl
  | 7, _ => rfl
  | j + 8, hj => exact absurd hj (by omega), rfl⟩
theorem nw_L_10 : NW RL 10 5 20 [.null, .null, .int 0, .null, .null, .null, .int 0, .int 0, .int 0, .int 0, .long 0, .int 0, .int 0, .null, .null, .null, .null, .null, .null, .int 0] := ⟨RX5, TX5, tyX5, cl_X5, tbG_in (List.mem_of_getElem? (i := 712) (by decide +kernel)) (by decide +kernel), tbG_in (List.mem_of_getElem? (i := 713) (by decide +kernel)) (by decide +kernel), tbG_in (List.mem_of_getElem? (i := 69) (by decide +kernel)) (by decide +kernel), fun j hj => by match j, hj with
  | 0, _ => rfl
  | 1, _ => rfl
  | 2, _ => rfl
  | 3, _ => rfl
  | 4, _ => rfl
  | 5, _ => rfl
  | 6, _ => rfl
  | 7, _ => rfl
  | 8, _ => rfl
  | 9, _ => rfl
  | 10, _ => rfl
  | 11, _ => rfl
  | 12, _ => rfl
  | 13, _ => rfl
  | 14, _ => rfl
  | 15, _ => rfl
  | 16, _ => rfl
  | 17, _ => rfl
  | 18, _ => rfl
  | 19, _ => rfl
  | j + 20, hj => exact absurd hj (by omega), rfl⟩
theorem li_L_9 : LI RL 9 yX4_init cX4_init 1 := ⟨⟨tbG_in (List.mem_of_getElem? (i := 64) (by decide +kernel)) (by decide +kernel), tbG_in (List.mem_of_getElem? (i := 80) (by decide +kernel)) (by decide +kernel), by decide, by decide, by decide +kernel, by decide⟩, tbG_in (List.mem_of_getElem? (i := 78) (by decide +kernel)) (by decide +kernel), tbG_in (List.mem_of_getElem? (i := 79) (by decide +kernel)) (by decide +kernel), rfl⟩
theorem li_L_12 : LI RL 12 yX5_init cX5_init 2 := ⟨⟨tbG_in (List.mem_of_getElem? (i := 69) (by decide +kernel)) (by decide +kernel), tbG_in (List.mem_of_getElem? (i := 716) (by decide +kernel)) (by decide +kernel), by decide, by decide, by decide +kernel, by decide⟩, tbG_in (List.mem_of_getElem? (i := 714) (by decide +kernel)) (by decide +kernel), tbG_in (List.mem_of_getElem? (i := 715) (by decide +kernel)) (by decide +kernel), rfl⟩
/-! ===== THE LAW, from its entry ===== -/
theorem LInv0 : LInv St0 St0 zI 0 zI zI 0 := ⟨⟨Inv0, by decide⟩, ⟨Inv0, by decide⟩, fun k => by show inR 0 0 255; decide, by decide, fun k => by show inR 0 0 40; decide, fun z => absurd rfl z⟩
set_option maxRecDepth 20000 in
set_option maxHeartbeats 4000000 in
theorem law_start {X : VX} {L : Nat} {xs : Nat → Int32} (g : VG X code RL 13) (hp : LawP L xs X) (q : QC X 51 1394 0 0 0) (hL : L ≤ 3072) : V X 0 [some (.ref 3000), none, none, none] [] [] := by
  refine n_newO (LawPg L xs) (pc := 0) _ g q hp dL_law_0 nw_L_7 rfl (Nat.le_of_ble_eq_true rfl) (Nat.le_of_ble_eq_true rfl) (Nat.le_of_ble_eq_true rfl) rfl rfl rfl rfl (fun X g q hp => ?_)
  refine v_w [.inr (4, [.null, .null, .null, .null, .null, .null, .null, .int 0])] rfl ?_
  refine v_dup (pc := 3) g dL_law_3 rfl ?_
  refine n_cI (LawPg L xs) (pc := 4) (xW St0 0 St0 0 St0 0 zI 0 0 0 0 0 0 zI zI zJ zI 0) g q hp dL_law_4 li_L_9 c_X4_init (Nat.le_of_ble_eq_true rfl) rfl rfl (hp.fr q (Nat.le_of_ble_eq_true rfl)) rfl (Nat.le_of_ble_eq_true rfl) (Nat.le_of_ble_eq_true rfl) (Nat.le_of_ble_eq_true rfl) (Nat.le_of_ble_eq_true rfl) rfl rfl rfl rfl (Nat.le_of_ble_eq_true rfl) rfl (fun X g q hp => ?_)
  have hnL := hp.nL
  refine v_astore_n (pc := 7) 1 _ g dL_law_7 rfl (Nat.le_of_ble_eq_true rfl) hnL.symm rfl ?_
  refine v_loE [some (.ref 3000), some (.ref 0), none, none] rfl ?_
  refine n_newO (LawPg L xs) (pc := 8) _ g q hp dL_law_8 nw_L_10 rfl (Nat.le_of_ble_eq_true rfl) (Nat.le_of_ble_eq_true rfl) (Nat.le_of_ble_eq_true rfl) rfl rfl rfl rfl (fun X g q hp => ?_)
  refine v_dup (pc := 11) g dL_law_11 rfl ?_
  refine n_cI (LawPg L xs) (pc := 12) (xW St0 0 St0 0 St0 0 zI 0 0 0 0 0 0 zI zI zJ zI 0 ++ mX (rowOf St0) zI 0 zI zI zI 0 0 0 0 0 0 0 zI zI zJ zJ zI zI 0) g q hp dL_law_12 li_L_12 c_X5_init (Nat.le_of_ble_eq_true rfl) rfl rfl (hp.fr q (Nat.le_of_ble_eq_true rfl)) rfl (Nat.le_of_ble_eq_true rfl) (Nat.le_of_ble_eq_true rfl) (Nat.le_of_ble_eq_true rfl) (Nat.le_of_ble_eq_true rfl) rfl rfl rfl rfl (Nat.le_of_ble_eq_true rfl) rfl (fun X g q hp => ?_)
  have hnL := hp.nL
  refine v_astore_n (pc := 15) 2 _ g dL_law_15 rfl (Nat.le_of_ble_eq_true rfl) hnL.symm rfl ?_
  refine v_iconst (pc := 16) (v := 0) g dL_law_16 (by decide) ?_
  refine v_istore_n (pc := 17) 3 _ g dL_law_17 rfl (Nat.le_of_ble_eq_true rfl) hnL.symm rfl ?_
  refine v_loE [some (.ref 3000), some (.ref 0), some (.ref 39), some (.int (nI 0))] rfl ?_
  exact law_loop g hp q hL (L + 1) 0 (Nat.zero_le _) (by omega) _ _ _ _ _ _ _ _ _ _ _ _ _ _ _ _ _ _ _ _ _ _ _ _ _ _ _ _ _ _ LInv0
/-- YOUR PART: from the entry, for every script of at most 3072 ints, the law comes to its end with true ('hflags': the launch's flags, for a law that throws: no stack traces) -/
theorem whole_start {p : Program} {e : Env} {s : State} {m : MethodId} {below : List Frame} {meth : Method} {c : Code} (l : Launch) (hflags : l.flags = flags0) {b L : Nat} {xs : Nat → Int32} (hL : L ≤ 3072) (C0 : lw_At p s m meth c b L xs) : W p l e room_1 s m #[Value.ref b] below meth c s.heap [] 0 0 (lw_Z below #[Value.ref b] s) (entryFrame m ([Value.ref b] : List Value).toArray 4) := by
  obtain ⟨hx, hb, hr, hml, hown, hts, hX, hbl, hlocks, hgv⟩ := id C0
  obtain ⟨D, cI, cJ, ad, hK, h3⟩ := kx_start hts hgv
  have htG : ∀ w ∈ tbG, w.before #[Value.ref b] s = true := fun w hw => hts w (List.mem_filter.mp hw).1
  have hl := lv_entry ([Value.ref b]) (n := 4) (Nat.le_of_ble_eq_true rfl)
  rw [lg_entry_eq]
  have hl2 : lv_has ((lg_sl ([Value.ref b]) ++ List.replicate (4 - (lg_sl ([Value.ref b])).length) Slot.unset).toArray) 4 (cLf ad 0 [some (.ref 3000), none, none, none]) := by
    refine ⟨hl.1, hl.2.1, fun q hq => hl.2.2 q ?_⟩
    have hq : q ∈ [(0, Value.ref (ad 3000))] := hq
    rw [h3] at hq
    exact hq
  exact law_start (X := (p, l, e, room_1, s, m, #[Value.ref b], below, meth, c, D, cI, cJ, ad, 0, lw_Z below #[Value.ref b] s, 4, 0, 0)) (L := L) (xs := xs) ⟨hx, hb, hml, hown, htG, hK, fun i j hi => absurd hi (by omega), ⟨by decide, by decide⟩, ⟨Nat.zero_le _, Nat.zero_le _⟩⟩ ⟨rfl, rfl, hr, hlocks, ⟨b, rfl, h3, hX, hbl, rfl⟩, fun i hi => absurd hi (by omega)⟩ ⟨rfl, rfl, rfl, rfl, rfl⟩ hL rfl s.heap [] _ (fun k q h => by cases h) va_S.rf hl2
-- ===== YOUR PART ENDS =====
set_option maxHeartbeats 4000000 in
theorem lw_walk (l : Launch) (hflags : l.flags = flags0) (b : Addr) (xs : List Int32) : MetFree l x (headSpec (Jvm.Cond.code x code maxLocals ret :: tables_1) room_1) (lw_P b xs) (fun _ _ _ _ _ => True) lw_Q := by
  refine MetFree.of_bodyS (code := code) (maxLocals := maxLocals) (ret := ret) (by decide) ?_ ?_
  · intro args s m h hn
    obtain ⟨meth, c, h1, h2, h3, h4, h5, h6, -, -⟩ := Cond.code_spec hn (atoms_spec (ws := Jvm.Cond.code x code maxLocals ret :: tables_1) h _ List.mem_cons_self)
    exact ⟨meth, c, h1, h2, h3, h4, h5, h6⟩
  · intro p e s m args below meth c s₁ B hml0 hP _
    obtain ⟨rfl, hx, hbd, hgv⟩ := hP
    obtain ⟨scr, harrAt, hlist, hof, hsmall⟩ := hx
    obtain ⟨hcb, hkn, -, -⟩ := State.arrayAt?_spec harrAt
    have hown : s.vm.findClass R_law = some m.cls := findClass_of_methodNamed B.named
    have hts0 : ∀ c ∈ (Jvm.Cond.code x code maxLocals ret :: tables_1), c.before #[Value.ref b] s = true := atoms_spec (ws := Jvm.Cond.code x code maxLocals ret :: tables_1) B.pre
    have hts : ∀ w ∈ lw_tbl, w.before #[Value.ref b] s = true := k2_hts_sels lw_privs (fun w hw => hts0 w (List.mem_cons_of_mem _ hw)) lw_privs_ok
    have hml : c.maxLocals = 4 := B.maxLocals_eq (hts0 _ List.mem_cons_self)
    have X₀ : Stand p l e room_1 s m #[Value.ref b] below meth c s₁ [] 0 0 := Stand.of_body B
    have hh0 : s₁.heap = s.heap := by rw [B.state]; rfl
    have hsz : scr.slots.size = xs.length := by rw [← Array.length_toList, hlist, List.length_map]
    have hval : ∀ j : Nat, j < xs.length → scr.slots[j]? = some (.int (xs.getD j 0)) := fun j hj => by
      rw [← Array.getElem?_toList, hlist]
      simp [hj]
    have hbl : b < s.heap.size := (Array.getElem?_eq_some_iff.mp hcb).1
    have hX : va_X b xs.length (fun j => xs.getD j 0) s s.heap := ⟨scr, hcb, hof, hkn, hsz, hval⟩
    have K : W p l e room_1 s m #[Value.ref b] below meth c s₁.heap [] 0 0 (lw_Z below #[Value.ref b] s) (entryFrame m ([Value.ref b] : List Value).toArray 4) := by
      rw [hh0]
      exact whole_start l hflags hbd ⟨B.exec, B.bytes, B.returns, hml, hown, hts, hX, hbl, B.notSynchronized, hgv⟩
    obtain ⟨t, a1, o, b1, b2, b3⟩ := K s₁ rfl X₀
    exact ⟨t, o, a1, b1, b2, b3⟩
theorem lw_pre_spec {args : Array Value} {s : State} (h : (Jvm.Cond.and given_1 narrow_1).before args s = true) (hr : rest_1_c.before args s = true) : ∃ (b : Addr) (xs : List Int32), lw_P b xs args s := by
  have hs := flat_of_before _ h
  have hq := flat_of_before _ hr
  have hc : (Cond.count 1).before args s = true := hs _ (by decide +kernel)
  have harr : (Cond.arrayOf (.arg 0) .int).before args s = true := hs _ (by decide +kernel)
  have hle : (Cond.le (.length (.arg 0)) (.int 3072)).before args s = true := hs _ (by decide +kernel)
  have hlen : (Cond.isInt (.length (.arg 0))).before args s = true := hq _ (by decide +kernel)
  have hall : (Cond.all (.arg 0) (.isInt (.elem (.arg 0) (.index 0)))).before args s = true := hq _ (by decide +kernel)
  obtain ⟨b, xs, hb, hx⟩ := State.ints_of_pre rfl harr hlen hall
  have hsm : xs.length < 2 ^ 31 := hx.choose_spec.2.2.2
  have hev : (Term.length (.arg 0)).eval args s none [] s = some (.int xs.length.toInt32) := hx.length_eval hb
  have hv := Cond.le_ints hev (show (Term.int 3072).eval args s none [] s = some (.int 3072) from rfl)
  have hd : xs.length.toInt32 ≤ 3072 := by
    simpa [Cond.before, Cond.holds, hv] using hle
  have hN : xs.length ≤ 3072 := (Int32.ofNat_le_ofNat hsm (by decide)).mp (show Int32.ofNat xs.length ≤ Int32.ofNat 3072 from hd)
  exact ⟨b, xs, Cond.one_arg hc (show args[0]? = some (.ref b) from hb), hx, hN, h⟩
theorem lw_comes (l : Launch) (hflags : l.flags = flags0) : Comes l x (Jvm.Cond.code x code maxLocals ret :: tables_1) room_1 (fun tb e args s => Calls_1 tb e args s ∧ rest_1 tb e args s ∧ Pre_1 tb e args s)
    (fun _ _ args s o t => lw_Q args s o t) := by
  intro p e ha hc hk s m args below hf hfit hheap happ hpre
  obtain ⟨b, xs, hP⟩ := lw_pre_spec hpre.2.2 hpre.2.1
  obtain ⟨k, o, h1, h2, h3, hQ⟩ := lw_walk l hflags b xs p e ha hc hk s m args below hf ((Spec.applies_iff_loose hf).mp happ).1 hP trivial
  exact ⟨k, o, h1, h2, h3, hQ⟩
theorem lw_frame {s t : State} {o : Outcome} {args : Array Value} (h : Framed s o t [] 51 1394) :
    Framed s o t (fieldLocs frame_1_writes args s ++ arrayLocs frame_1_arrays args s ++ staticLocs frame_1_statics s) 51 1394 := h
theorem lw_limb (L : Cond) (hL : ∀ (args : Array Value) (s t : State), L.after args s (.returned (some (.int 1))) t = true) :
    ArmFor flags0 classFile x code maxLocals ret World_1 tables_1 room_1 Calls_1 rest_1 Pre_1
      (fun tb e a s o t => postC L tb e a s o t ∧ Framed s o t (fieldLocs frame_1_writes a s ++ arrayLocs frame_1_arrays a s ++ staticLocs frame_1_statics s) 51 1394) := by
  intro l hflags _ _ p e ha hc hk s m args below hf hfit hheap happ hpre
  obtain ⟨k, o, h1, h2, h3, rfl, hF⟩ := lw_comes l hflags p e ha hc hk s m args below hf hfit hheap happ hpre
  exact ⟨k, _, h1, h2, h3, hL args s _, lw_frame hF⟩
theorem i_vc : Claimed_1_1 ∧ Claimed_1_2 := ⟨lw_limb limb_1_1 (fun args s t => by simp [limb_1_1, Cond.after, Cond.holds, Cond.value]), lw_limb limb_1_2 (fun args s t => Cond.after_iff.mpr (by
  first | (rw [show limb_1_2 = Cond.eq .result (.int 1) from rfl, Cond.eq_ints (x := 1) (y := 1) rfl rfl]; simp; done) | (simp [limb_1_2, Cond.value, Term.eval]; done)))⟩
