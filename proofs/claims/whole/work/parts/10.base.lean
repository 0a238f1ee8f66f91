/-! ===== THE PURE JUDGEMENT: a walk over a partial map of cells, the machine behind it ===== -/
abbrev xE : Type := (va_G × (Nat → ClassId)) × (Nat → Nat)
abbrev xHp : Type := Nat → Option va_E
abbrev xM : Type := MethodName × ByteArray × Nat × Option FieldType × Nat × Nat × Nat
abbrev xY (M : xM) : MethodName := M.1
abbrev xC (M : xM) : ByteArray := M.2.1
abbrev xL (M : xM) : Nat := M.2.2.1
abbrev xR (M : xM) : Option FieldType := M.2.2.2.1
abbrev xd (M : xM) : Nat := M.2.2.2.2.1
abbrev xmc (M : xM) : Nat := M.2.2.2.2.2.1
abbrev xms (M : xM) : Nat := M.2.2.2.2.2.2
abbrev xRm (M : xM) : Room := { frames := xd M, cells := xmc M, slots := xms M, locals := 39 * xd M }
def xTys (E : xE) : List (ClassId × FieldType) := [(E.1.2 0, .int), (E.1.2 1, .long), (E.1.2 2, .char), (E.1.2 3, .object "RobbedOnce$Town"), (E.1.2 4, .object "RobbedOnce$Sheet")]
def xA (E : xE) : Nat → Prop := fun q => E.2 0 ≤ q
def GW : List Cond := lw_tbl.filter goodWord
def isNest : Cond → Bool
  | .fieldLinkNest _ _ _ _ _ _ => true
  | .methodLinkNest _ _ _ _ => true
  | _ => false
def NW : List Cond := lw_tbl.filter isNest
theorem gw_t {w : Cond} (i : Nat) (h : tables_1[i]? = some w) (hg : goodWord w = true) : w ∈ GW := List.mem_filter.mpr ⟨List.mem_append_right _ (List.mem_of_getElem? h), hg⟩
theorem gw_s {w : Cond} (i : Nat) (h : (k2_sels lw_privs)[i]? = some w) (hg : goodWord w = true) : w ∈ GW := List.mem_filter.mpr ⟨List.mem_append_left _ (List.mem_of_getElem? h), hg⟩
theorem nw_t {w : Cond} (i : Nat) (h : tables_1[i]? = some w) (hg : isNest w = true) : w ∈ NW := List.mem_filter.mpr ⟨List.mem_append_right _ (List.mem_of_getElem? h), hg⟩
theorem gw_good {w : Cond} (h : w ∈ GW) : goodWord w = true := (List.mem_filter.mp h).2
theorem gw_in : GoodIn GW GW := fun w h => ⟨h, good_of_word (gw_good h)⟩
theorem gw_cons {c : Cond} (h : c ∈ GW) : GoodIn GW (c :: GW) := fun w hw => by
  rcases List.mem_cons.mp hw with rfl | hw
  · exact gw_in _ h
  · exact gw_in _ hw
theorem nw_warm {w : Cond} {s U : State} (hw : isNest w = true) (hW : s.WarmedH U.vm) (h : va_Nw w s) : va_Nw w U := by
  cases w with
  | fieldLinkNest a i b n d h' => exact va_Nw.warmF hW h
  | methodLinkNest a i x h' => exact va_Nw.warmM hW h
  | _ => cases hw
theorem nw_same {w : Cond} {s U : State} (hw : isNest w = true) (hv : s.vm = U.vm) (h : va_Nw w s) : va_Nw w U := by
  cases w with
  | fieldLinkNest a i b n d h' => exact va_Nw.same rfl hv h
  | methodLinkNest a i x h' => exact va_Nw.same rfl hv h
  | _ => cases hw
def xVm (E : xE) (U : State) : Prop := va_K E.1.1 vwCl (xTys E) U ∧ ∀ w ∈ NW, va_Nw w U
def xStr (E : xE) (U : State) (H : Heap) : Prop := vk_S 1 [5] [[112, 102, 99, 100, 114]] (fun _ => E.2 1) (fun _ => E.2 2) (xA E) U H ∧ vk_R "RobbedOnce$Tape" 51 "pfcdr" (E.2 1) U ∧ va_Z "java/lang/String" "COMPACT_STRINGS" "Z" (.int 1) (xA E) U H ∧ va_AO "RobbedOnce$Town" U ∧ va_AO "RobbedOnce$Sheet" U
def xHold (E : xE) (h : xHp) (H : Heap) : Prop := (∀ (a : Nat) (e : va_E), h a = some e → va_at E.1.1 vwCl (a, e) H ∧ E.2 0 ≤ a) ∧ (∀ a : Nat, E.2 0 ≤ a → ((h a).isSome = true ↔ a < H.size)) ∧ E.2 0 ≤ H.size
def xPre (E : xE) (h : xHp) (U : State) : Prop := xHold E h U.heap ∧ xVm E U ∧ xStr E U U.heap
def xPost (E : xE) (Q : Option Value → xHp → Prop) : Array Value → State → Outcome → State → Prop := fun _ st o t => (∃ (r : Option Value) (h' : xHp), o = .returned r ∧ Q r h' ∧ xHold E h' t.heap) ∧ va_F (xA E) st t
theorem xVm_warm {E : xE} {s U : State} (hW : s.WarmedH U.vm) (h : xVm E s) : xVm E U := ⟨va_K.moved hW.alike h.1, fun w hw => nw_warm (List.mem_filter.mp hw).2 hW (h.2 w hw)⟩
theorem xVm_same {E : xE} {s U : State} (hv : s.vm = U.vm) (h : xVm E s) : xVm E U := ⟨va_K.moved (by rw [hv]; exact Vm.Alike.refl _) h.1, fun w hw => nw_same (List.mem_filter.mp hw).2 hv (h.2 w hw)⟩
theorem xStr_warm {E : xE} {s U : State} {H : Heap} (hW : s.WarmedH U.vm) (h : xStr E s H) : xStr E U H := ⟨h.1.moved hW.alike, h.2.1.warm hW, h.2.2.1.moved hW.alike, h.2.2.2.1.moved hW.alike, h.2.2.2.2.moved hW.alike⟩
theorem xStr_same {E : xE} {s U : State} {H : Heap} (hv : s.vm = U.vm) (h : xStr E s H) : xStr E U H := ⟨h.1.moved (by rw [hv]; exact Vm.Alike.refl _), h.2.1.same hv.symm, h.2.2.1.moved (by rw [hv]; exact Vm.Alike.refl _), h.2.2.2.1.moved (by rw [hv]; exact Vm.Alike.refl _), h.2.2.2.2.moved (by rw [hv]; exact Vm.Alike.refl _)⟩
theorem xStr_kept {E : xE} {s : State} {H H1 : Heap} (h : xStr E s H) (hq : ∀ a : Nat, a < H.size → ¬ xA E a → H1[a]? = H[a]?) : xStr E s H1 := ⟨h.1.kept hq, h.2.1, h.2.2.1.kept hq, h.2.2.2⟩
def xLv (ls : Array Slot) (nL : Nat) (lo : List (Option Value)) : Prop := ls.size = nL ∧ lv_wf ls ∧ ∀ (i : Nat) (v : Value), lo[i]? = some (some v) → ls[i]? = some (.val v)
def xCx (E : xE) (M : xM) (p : Program) (s : State) (m : MethodId) (args : Array Value) (meth : Method) (c : Code) : Prop :=
  p.tables.exec = Jvm.exec ∧ c.code = xC M ∧ c.maxLocals = xL M ∧ meth.sig.returnType = xR M ∧ meth.locks = false ∧ s.vm.findClass (xY M).cls = some m.cls ∧ (∀ w ∈ GW, w.before args s = true) ∧ xVm E s ∧ xStr E s s.heap ∧ meth.name = (xY M).name
def PW (E : xE) (M : xM) (Q : Option Value → xHp → Prop) (k n pc : Nat) (lo : List (Option Value)) (st : List Value) (h : xHp) : Prop :=
  ∀ (l : Launch) (p : Program) (e : Env) (s : State) (m : MethodId) (args : Array Value) (below : List Frame) (meth : Method) (c : Code), xCx E M p s m args meth c → ∀ (H : Heap) (locs : List Loc) (ls : Array Slot), xHold E h H → va_S (xA E) s.heap H locs → xLv ls (xL M) lo →
    W p l e (xRm M) s m args below meth c H locs k n (MQ below (xPost E Q) args s (xmc M) (xms M) (xA E)) (F0 m pc ls st)
def PMet (E : xE) (M : xM) (av : List Value) (h : xHp) (Q : Option Value → xHp → Prop) : Prop :=
  ∀ l : Launch, Met l (xY M) (Cond.code (xY M) (xC M) (xL M) (xR M) :: GW) (xRm M) (va_Pc av (xPre E h)) (xPost E Q) (xmc M) (xms M) (xA E)
/-- a local list of a method's entry -/
def xEnt (n : Nat) (av : List Value) : List (Option Value) := (List.range n).map (fun i => ((lv_args 0 av).find? (fun q => q.1 == i)).map (fun q => q.2))
theorem xEnt_at {n : Nat} {av : List Value} {i : Nat} {v : Value} (h : (xEnt n av)[i]? = some (some v)) : (i, v) ∈ lv_args 0 av := by
  unfold xEnt at h
  rw [List.getElem?_map] at h
  cases hr : (List.range n)[i]? with
  | none => rw [hr] at h; cases h
  | some j =>
    rw [hr] at h
    have hj : i = j := by
      obtain ⟨h1, h2⟩ := List.getElem?_eq_some_iff.mp hr
      rw [List.getElem_range] at h2
      exact h2
    subst hj
    simp only [Option.map_some, Option.some.injEq] at h
    cases hf : (lv_args 0 av).find? (fun q => q.1 == i) with
    | none => rw [hf] at h; cases h
    | some q =>
      rw [hf] at h
      simp only [Option.map_some, Option.some.injEq] at h
      have h1 := List.mem_of_find?_eq_some hf
      have h2 := List.find?_some hf
      simp only [beq_iff_eq] at h2
      rw [← h, ← h2]
      exact h1
theorem pm_of {E : xE} {M : xM} {av : List Value} {h : xHp} {Q : Option Value → xHp → Prop} (lo : List (Option Value)) (hpl : plainName (xY M).cls = true) (hlen : (lg_sl av).length ≤ xL M) (hlo : xEnt (xL M) av = lo) (hw : PW E M Q 0 0 0 lo [] h) : PMet E M av h Q := by
  intro l
  refine Met.ofW (cc := xC M) (maxL := xL M) (ret := xR M) hpl rfl ?_
  intro p e s m args below meth c s₁ B hml hv
  obtain ⟨rfl, hH, hVm, hStr⟩ := hv
  have hts := atoms_spec (ws := Cond.code (xY M) (xC M) (xL M) (xR M) :: GW) B.pre
  have hl := lv_entry av (n := xL M) hlen
  rw [lg_entry_eq]
  refine hw l p e s m _ below meth c ⟨B.exec, B.bytes, hml, B.returns, B.notSynchronized, findClass_of_methodNamed B.named, fun w hw => hts w (List.mem_cons_of_mem _ hw), hVm, hStr, (name_of_methodNamed B.named B.method).1⟩ s.heap [] _ hH va_S.rf ⟨hl.1, hl.2.1, fun i v hi => ?_⟩
  subst hlo
  exact hl.2.2 (i, v) (xEnt_at hi)
theorem pm_mono {E : xE} {M : xM} {av : List Value} {h : xHp} {Q Q' : Option Value → xHp → Prop} (hm : PMet E M av h Q) (hq : ∀ r h', Q r h' → Q' r h') : PMet E M av h Q' := by
  intro l p e ha hc hk s m args below hf hfit happ hpre
  obtain ⟨k, o, h1, h2, h3, ⟨⟨⟨r, h', e1, e2, e3⟩, e4⟩, e5⟩⟩ := hm l p e ha hc hk s m args below hf hfit happ hpre
  exact ⟨k, o, h1, h2, h3, ⟨⟨r, h', e1, hq _ _ e2, e3⟩, e4⟩, e5⟩
