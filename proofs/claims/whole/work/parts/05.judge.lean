/-! ===== the judgement V, contracts Runs ===== -/
def tbG : List Cond := lw_tbl.filter goodWord
theorem tbG_in {w : Cond} (h : w ∈ lw_tbl) (hg : goodWord w = true) : w ∈ tbG := List.mem_filter.mpr ⟨h, hg⟩
theorem tbG_good : GoodIn tbG tbG := fun w hw => ⟨hw, good_of_word (List.mem_filter.mp hw).2⟩
def nestT : List (String × Nat × MethodName × String) := [(RX4, 24, yX2_init, RX4), (RX4, 31, yX3_init, RX4), (RX4, 38, yX0_init, RX4), (RX1, 88, yX4_isIn, RX4), (RX1, 114, yX4_isHouse, RX4), (RX3, 117, yX4_within, RX4)]
def strT : List (Nat × String) := [(105, "baron"), (107, "child"), (109, "doctor"), (111, "bishop"), (113, "babe"), (115, "sneezer"), (77, "south"), (83, "cold"), (92, "tickle"), (47, "open"), (52, "shut"), (54, "dry"), (59, "lamp")]
def lenS : List Nat := [5, 5, 6, 6, 4, 7, 5, 4, 6, 4, 4, 3, 4]
def bytS : List (List Int32) := [[98, 97, 114, 111, 110], [99, 104, 105, 108, 100], [100, 111, 99, 116, 111, 114], [98, 105, 115, 104, 111, 112], [98, 97, 98, 101], [115, 110, 101, 101, 122, 101, 114], [115, 111, 117, 116, 104], [99, 111, 108, 100], [116, 105, 99, 107, 108, 101], [111, 112, 101, 110], [115, 104, 117, 116], [100, 114, 121], [108, 97, 109, 112]]
/-- what the tables, the statics and the String constants are -/
def KX (D : va_G) (cI cJ : ClassId) (ad : Nat → Nat) (A : Nat → Prop) (U : State) (H : Heap) : Prop :=
  va_K D vwCl [(cI, .int), (cJ, .long)] U ∧ (∀ q ∈ nestT, va_Nw (.methodLinkNest q.1 q.2.1 q.2.2.1 q.2.2.2) U) ∧ vk_S 13 lenS bytS (fun i => ad (1000 + i)) (fun i => ad (2000 + i)) A U H ∧ (∀ (i : Nat) (q : Nat × String), strT[i]? = some q → vk_R RX3 q.1 q.2 (ad (1000 + i)) U) ∧ va_Z "java/lang/String" "COMPACT_STRINGS" "Z" (.int 1) A U H ∧ (va_Z "jdk/internal/util/Preconditions" "SIOOBE_FORMATTER" "Ljava/util/function/BiFunction;" .null A U H ∨ va_Z "jdk/internal/util/Preconditions" "SIOOBE_FORMATTER" "Ljava/util/function/BiFunction;" (.ref (ad 3001)) A U H)
theorem KX.warm {D : va_G} {cI cJ : ClassId} {ad : Nat → Nat} {A : Nat → Prop} {s U : State} {H : Heap} (hW : s.WarmedH U.vm) (h : KX D cI cJ ad A s H) : KX D cI cJ ad A U H :=
  ⟨va_K.moved hW.alike h.1, fun q hq => va_Nw.warmM hW (h.2.1 q hq), vk_S.moved hW.alike h.2.2.1, fun i q hq => vk_R.warm hW (h.2.2.2.1 i q hq), va_Z.moved hW.alike h.2.2.2.2.1, h.2.2.2.2.2.imp (va_Z.moved hW.alike) (va_Z.moved hW.alike)⟩
theorem KX.same {D : va_G} {cI cJ : ClassId} {ad : Nat → Nat} {A : Nat → Prop} {s U : State} {H : Heap} (hv : s.vm = U.vm) (h : KX D cI cJ ad A s H) : KX D cI cJ ad A U H := by
  have hA : s.vm.Alike U.vm := by rw [hv]; exact Vm.Alike.refl _
  exact ⟨va_K.moved hA h.1, fun q hq => va_Nw.same rfl hv (h.2.1 q hq), vk_S.moved hA h.2.2.1, fun i q hq => vk_R.same hv.symm (h.2.2.2.1 i q hq), va_Z.moved hA h.2.2.2.2.1, h.2.2.2.2.2.imp (va_Z.moved hA) (va_Z.moved hA)⟩
theorem KX.kept {D : va_G} {cI cJ : ClassId} {ad : Nat → Nat} {A : Nat → Prop} {U : State} {H H1 : Heap} (h : KX D cI cJ ad A U H) (hq : ∀ a : Nat, a < H.size → ¬ A a → H1[a]? = H[a]?) : KX D cI cJ ad A U H1 :=
  ⟨h.1, h.2.1, h.2.2.1.kept hq, h.2.2.2.1, h.2.2.2.2.1.kept hq, h.2.2.2.2.2.imp (fun z => z.kept hq) (fun z => z.kept hq)⟩
theorem KX.narrow {D : va_G} {cI cJ : ClassId} {ad : Nat → Nat} {A B : Nat → Prop} {U : State} {H : Heap} (h : KX D cI cJ ad A U H) (hAB : ∀ q, B q → A q) : KX D cI cJ ad B U H :=
  ⟨h.1, h.2.1, h.2.2.1.narrow hAB, h.2.2.2.1, h.2.2.2.2.1.narrow hAB, h.2.2.2.2.2.imp (fun z => z.narrow hAB) (fun z => z.narrow hAB)⟩
/-- other names for the places -/
theorem KX.ren {D : va_G} {cI cJ : ClassId} {ad ad' : Nat → Nat} {A : Nat → Prop} {U : State} {H : Heap} (he : ∀ i, 1000 ≤ i → ad' i = ad i) (h : KX D cI cJ ad A U H) : KX D cI cJ ad' A U H := by
  have e1 : (fun i => ad' (1000 + i)) = (fun i => ad (1000 + i)) := funext fun i => he _ (by omega)
  have e2 : (fun i => ad' (2000 + i)) = (fun i => ad (2000 + i)) := funext fun i => he _ (by omega)
  refine ⟨h.1, h.2.1, by rw [e1, e2]; exact h.2.2.1, fun i q hq => by rw [he _ (by omega)]; exact h.2.2.2.1 i q hq, h.2.2.2.2.1, by rw [he _ (by omega)]; exact h.2.2.2.2.2⟩
def pA (ad : Nat → Nat) (N : Nat) : Nat → Prop := fun q => ∃ k : Nat, k < N ∧ q = ad k
def rmD (d : Nat) : Room := { frames := d, cells := 0, slots := 0, locals := 38 * d }
def PcV (D : va_G) (cI cJ : ClassId) (ad : Nat → Nat) (av : List Value) (w : PW) : Array Value → State → Prop := fun v U =>
  v = (av.map (cV ad)).toArray ∧ KX D cI cJ ad (pA ad w.length) U U.heap ∧ va_P D vwCl (cWf cI cJ ad 0 w) U.heap ∧ ∀ i j : Nat, i < w.length → j < w.length → ad i = ad j → i = j
def QcV (D : va_G) (cI cJ : ClassId) (ad : Nat → Nat) (N : Nat) (Q : Option Value → PW → Prop) : Array Value → State → Outcome → State → Prop := fun _ st o t =>
  (∃ (r : Option Value) (w : PW), o = .returned (r.map (cV ad)) ∧ Q r w ∧ w.length = N ∧ va_P D vwCl (cWf cI cJ ad 0 w) t.heap) ∧ va_F (pA ad N) st t
/-- THE CONTRACT: called with av in the world w, y returns, with Q of its answer and the world behind it; d levels of calls lie below -/
def Runs (d : Nat) (y : MethodName) (cc : ByteArray) (mL : Nat) (ret : Option FieldType) (av : List Value) (w : PW) (Q : Option Value → PW → Prop) : Prop :=
  ∀ (l : Launch) (D : va_G) (cI cJ : ClassId) (ad : Nat → Nat), Met l y (Cond.code y cc mL ret :: tbG) (rmD d) (PcV D cI cJ ad av w) (QcV D cI cJ ad w.length Q) 0 0 (pA ad w.length)
abbrev VX : Type := Program × Launch × Env × Room × State × MethodId × Array Value × List Frame × Method × Code × va_G × ClassId × ClassId × (Nat → Nat) × Nat × (State → Prop) × Nat × Nat × Nat
def V (X : VX) (pc : Nat) (lo : List (Option Value)) (st : List Value) (w : PW) : Prop := match X with
  | (p, l, e, R, s, m, args, below, meth, c, D, cI, cJ, ad, N, Z, nL, kc, ks) =>
    w.length = N → ∀ (H : Heap) (locs : List Loc) (ls : Array Slot), va_P D vwCl (cWf cI cJ ad 0 w) H → va_S (pA ad N) s.heap H locs → lv_has ls nL (cLf ad 0 lo) → W p l e R s m args below meth c H locs kc ks Z (F0 m pc ls (st.map (cV ad)))
def VG (X : VX) (cc : ByteArray) (own : String) (d : Nat) : Prop := match X with
  | (p, l, e, R, s, m, args, below, meth, c, D, cI, cJ, ad, N, Z, nL, kc, ks) =>
    p.tables.exec = Jvm.exec ∧ c.code = cc ∧ c.maxLocals = nL ∧ s.vm.findClass own = some m.cls ∧ (∀ w ∈ tbG, w.before args s = true) ∧ KX D cI cJ ad (pA ad N) s s.heap ∧ (∀ i j : Nat, i < N → j < N → ad i = ad j → i = j) ∧ (d ≤ R.frames ∧ 38 * d ≤ R.locals) ∧ (kc ≤ R.cells ∧ ks ≤ R.slots)
def VR (X : VX) (ret : Option FieldType) (Q : Option Value → PW → Prop) : Prop := match X with
  | (p, l, e, R, s, m, args, below, meth, c, D, cI, cJ, ad, N, Z, nL, kc, ks) =>
    meth.sig.returnType = ret ∧ meth.locks = false ∧ Z = MQ below (QcV D cI cJ ad N Q) args s kc ks (pA ad N)
def nLo (X : VX) : Nat := match X with
  | (_, _, _, _, _, _, _, _, _, _, _, _, _, _, _, _, nL, _, _) => nL
theorem PcV.blind {D : va_G} {cI cJ : ClassId} {ad : Nat → Nat} {av : List Value} {w : PW} : FrameBlind (PcV D cI cJ ad av w) := fun a U g mk h => ⟨h.1, KX.same (s := U) (U := U.calling g mk a) rfl h.2.1, h.2.2.1, h.2.2.2⟩
/-- a method, from its entry -/
theorem Runs.of {d : Nat} {y : MethodName} {cc : ByteArray} {mL : Nat} {ret : Option FieldType} {av : List Value} {w : PW} {Q : Option Value → PW → Prop} {lo : List (Option Value)} (hy : plainName y.cls = true) (hlen : (av.map Value.category).sum ≤ mL) (hlo : eL mL av = lo)
    (body : ∀ X : VX, VG X cc y.cls d → VR X ret Q → nLo X = mL → V X 0 lo [] w) : Runs d y cc mL ret av w Q := by
  intro l D cI cJ ad
  refine Met.ofW (cc := cc) (maxL := mL) (ret := ret) hy rfl ?_
  intro p e s m args below meth c s₁ B hml hv
  obtain ⟨rfl, hK, hP, hinj⟩ := hv
  have hts := atoms_spec (ws := Cond.code y cc mL ret :: tbG) B.pre
  have hown : s.vm.findClass y.cls = some m.cls := findClass_of_methodNamed B.named
  have hl1 : (lg_sl (av.map (cV ad))).length ≤ mL := by
    refine Nat.le_trans (Nat.le_of_eq ?_) hlen
    clear hts hown B hK hP body hlo hlen
    induction av with
    | nil => rfl
    | cons v l ih =>
      have h2 : ∀ (u : Value) (r : List Value), (lg_sl (u :: r)).length = u.category + (lg_sl r).length := by
        intro u r
        cases u <;> simp [lg_sl, Value.category] <;> omega
      rw [List.map_cons, h2, ih, List.map_cons, List.sum_cons, cV_cat]
  have hl := lv_entry (av.map (cV ad)) (n := mL) hl1
  have hl2 : lv_has ((lg_sl (av.map (cV ad)) ++ List.replicate (mL - (lg_sl (av.map (cV ad))).length) Slot.unset).toArray) mL (cLf ad 0 lo) := by
    refine ⟨hl.1, hl.2.1, fun q hq => ?_⟩
    obtain ⟨j, u, h1, rfl⟩ := (cLf_mem ad _ 0 q).mp hq
    rw [← hlo] at h1
    exact hl.2.2 _ (eL_get ad av mL 0 j u h1)
  have K := body (p, l, e, (headSpec (Cond.code y cc mL ret :: tbG) (rmD d)).room, s, m, (av.map (cV ad)).toArray, below, meth, c, D, cI, cJ, ad, w.length, MQ below (QcV D cI cJ ad w.length Q) (av.map (cV ad)).toArray s 0 0 (pA ad w.length), mL, 0, 0)
    ⟨B.exec, B.bytes, hml, hown, fun x hx => hts x (List.mem_cons_of_mem _ hx), hK, hinj, ⟨Nat.le_refl _, Nat.le_refl _⟩, ⟨Nat.zero_le _, Nat.zero_le _⟩⟩ ⟨B.returns, B.notSynchronized, rfl⟩ rfl rfl s.heap [] _ hP va_S.rf hl2
  rw [lg_entry_eq]
  exact K
