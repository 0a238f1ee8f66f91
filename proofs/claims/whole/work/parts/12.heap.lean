theorem va_P_one {D : va_G} {cl : List vw_C} {a : Nat} {e : va_E} {H : Heap} (h : va_at D cl (a, e) H) : va_P D cl [(a, e)] H := by
  intro k q hq
  have hz : k < 1 := (List.getElem?_eq_some_iff.mp hq).1
  rw [show k = 0 by omega] at hq
  cases hq
  exact h
theorem xHold_put {E : xE} {h : xHp} {H H1 : Heap} {a : Nat} {e0 e : va_E} (hH : xHold E h H) (ha : h a = some e0) (he : va_at E.1.1 vwCl (a, e) H1) (oq : ∀ q : Nat, q ≠ a → H1[q]? = H[q]?) (hz : H1.size = H.size) : xHold E (va_up h a (some e)) H1 := by
  obtain ⟨h1, h2, h3⟩ := hH
  refine ⟨fun q e' hq => ?_, fun q hq => ?_, by rw [hz]; exact h3⟩
  · by_cases hqa : q = a
    · subst hqa
      rw [va_up_self] at hq
      cases hq
      exact ⟨he, (h1 _ _ ha).2⟩
    · rw [va_up_ne _ _ hqa] at hq
      exact ⟨(h1 q e' hq).1.kept (oq q hqa), (h1 q e' hq).2⟩
  · rw [hz, ← h2 q hq]
    by_cases hqa : q = a
    · subst hqa
      rw [va_up_self, ha]
      simp
    · rw [va_up_ne _ _ hqa]
theorem xHold_new {E : xE} {h : xHp} {H H1 : Heap} {e : va_E} (hH : xHold E h H) (he : va_at E.1.1 vwCl (H.size, e) H1) (oq : ∀ q : Nat, q < H.size → H1[q]? = H[q]?) (hz : H1.size = H.size + 1) : xHold E (va_up h H.size (some e)) H1 := by
  obtain ⟨h1, h2, h3⟩ := hH
  refine ⟨fun q e' hq => ?_, fun q hq => ?_, by omega⟩
  · by_cases hqa : q = H.size
    · subst hqa
      rw [va_up_self] at hq
      cases hq
      exact ⟨he, h3⟩
    · rw [va_up_ne _ _ hqa] at hq
      exact ⟨(h1 q e' hq).1.kept (oq q (h1 q e' hq).1.lt), (h1 q e' hq).2⟩
  · rw [hz]
    by_cases hqa : q = H.size
    · subst hqa
      rw [va_up_self]
      simp
    · rw [va_up_ne _ _ hqa, h2 q hq]
      omega
def xFL (own : String) (idx : Nat) (ref nm d : String) : Prop := Cond.fieldLink own idx ref nm d ∈ GW ∨ ∃ host, Cond.fieldLinkNest own idx ref nm d host ∈ NW
def xML (own : String) (idx : Nat) (y : MethodName) : Prop := Cond.methodLink own idx y ∈ GW ∨ ∃ host, Cond.methodLinkNest own idx y host ∈ NW
def xCl (ci : Nat) (C : String) (T : u_T) (N : Nat) (ty0 : Nat → FieldType) : Prop := vwCl[ci]? = some (C, T, N) ∧ (∀ w ∈ u_ws C T N, w ∈ GW) ∧ (∀ k, k < N → parseFieldDescriptor (T k).2.2.1 = some (ty0 k)) ∧ (∀ a, a < N → ∀ b, b < N → a ≠ b → (T a).2.1 ≠ (T b).2.1)
section PXH
variable {E : xE} {M : xM} {Q : Option Value → xHp → Prop} {k n pc : Nat} {lo : List (Option Value)} {r : List Value} {h : xHp}
theorem px_get {ci N idx a : Nat} {Cn : String} {T : u_T} {ty0 : Nat → FieldType} {fs : List Value} {v : Value} (hk : xCl ci Cn T N ty0) (j : Nat) (hd : decode (xC M) pc = .ok (.getfield idx, 3)) (hl : xFL (xY M).cls idx (T j).1 (T j).2.1 (T j).2.2.1) (he : h a = some (.inr (ci, fs))) (hj : j < N) (hv : fs[j]? = some v) (kk : PW E M Q k n (pc + 3) lo (v :: r) h) : PW E M Q k n pc lo (.ref a :: r) h := by
  intro l p e s m args below meth c C H locs ls hH hS hlv
  rcases hl with hl | ⟨host, hl⟩
  · exact va_get (ws := [(a, .inr (ci, fs))]) C.1 C.2.1 C.2.2.2.2.2.2.1 hk.2.1 C.2.2.2.2.2.1 C.2.2.2.2.2.2.2.1.1 (va_P_one (hH.1 a _ he).1) 0 rfl hk.1 j hj (C.2.2.2.2.2.2.1 _ hl) (fun _ h9 => h9) hv hd (kk l p e s m args below meth c C H locs ls hH hS hlv)
  · exact va_getN (ws := [(a, .inr (ci, fs))]) C.1 C.2.1 C.2.2.2.2.2.2.1 hk.2.1 C.2.2.2.2.2.1 C.2.2.2.2.2.2.2.1.1 (va_P_one (hH.1 a _ he).1) 0 rfl hk.1 j hj (va_Nw.use rfl (C.2.2.2.2.2.2.2.1.2 _ hl)) (fun _ h9 => h9) hv hd (kk l p e s m args below meth c C H locs ls hH hS hlv)
theorem px_put {ci N idx a : Nat} {Cn : String} {T : u_T} {ty0 : Nat → FieldType} {fs : List Value} {v : Value} (hk : xCl ci Cn T N ty0) (j : Nat) (hd : decode (xC M) pc = .ok (.putfield idx, 3)) (hl : xFL (xY M).cls idx (T j).1 (T j).2.1 (T j).2.2.1) (he : h a = some (.inr (ci, fs))) (hj : j < N) (hlen : j < fs.length) (hfin : (T j).2.2.2 = false) (hn : narrow (ty0 j) v = v) (hfit : fits (ty0 j) v = true) (kk : PW E M Q k n (pc + 3) lo r (va_up h a (some (.inr (ci, fs.set j v))))) : PW E M Q k n pc lo (v :: .ref a :: r) h := by
  intro l p e s m args below meth c C H locs ls hH hS hlv
  obtain ⟨hc, hin, hty, hnm⟩ := hk
  have hts := C.2.2.2.2.2.2.1
  have hK := C.2.2.2.2.2.2.2.1.1
  have hap := va_apart (own := "") hts hin ty0 hty hnm hK hc
  obtain ⟨⟨r', h1, cell, q1, q2, q3, q4⟩, hza⟩ := hH.1 a _ he
  have hr : r' = (Cn, T, N) := Option.some.inj (h1.symm.trans hc)
  subst hr
  obtain ⟨hSl, hfc, kC, hkC, hkind⟩ := hK.1 ci _ hc
  obtain ⟨cf, kf, fi, f, hi, hsl⟩ := hSl j hj
  have hlay := hts _ (hin _ (u_in_lay hj))
  unfold u_lay at hlay
  rw [if_neg (by rw [hfin]; decide)] at hlay
  have hst := (u_facts hfc hkC (u_lays hts hin hj) hi).1
  have h6 := u_store hfc hkC hkind hlay hi (hty j hj) hn hfit
  have fin : ∀ H' : Heap, H'[a]? = some (cell.setSlot f.slot v) → H'.size = H.size → (∀ q, q ≠ a → H'[q]? = H[q]?) → W p l e (xRm M) s m args below meth c H' (locs ++ [⟨a, f.slot⟩]) k n (MQ below (xPost E Q) args s (xmc M) (xms M) (xA E)) (F0 m (pc + 3) ls r) := by
    intro H' e1 e2 e3
    rw [hsl] at e1 ⊢
    exact kk l p e s m args below meth c C H' _ ls (xHold_put hH he ⟨_, hc, t_OB.to (V := updV (vp_V fs) j v) ⟨_, e1, q2, q3, t_set q4 hap hj v⟩ (fun i _ => vp_updV_set hlen v i)⟩ e3 e2) (hS.put e2 e3 hza) hlv
  rcases hl with hl | ⟨host, hl⟩
  · exact W.putK C.1 C.2.1 (f := f) ⟨C.2.2.2.2.2.1, hts _ hl, ⟨_, _, _, hi⟩, hst⟩ (by rw [q2]; exact h6) q1 q3 (by rw [hsl]; exact k2_hasslot (q4 j hj)) rfl rfl hd fin
  · exact va_WputK C.1 C.2.1 (f := f) C.2.2.2.2.2.1 (va_Nw.use rfl (C.2.2.2.2.2.2.2.1.2 _ hl)) hi hst (by rw [q2]; exact h6) q1 q3 (by rw [hsl]; exact k2_hasslot (q4 j hj)) rfl rfl hd fin
theorem px_putF {ci N idx a : Nat} {Cn : String} {T : u_T} {ty0 : Nat → FieldType} {fs : List Value} {v : Value} (hk : xCl ci Cn T N ty0) (j : Nat) (hd : decode (xC M) pc = .ok (.putfield idx, 3)) (hl : Cond.fieldLink (xY M).cls idx (T j).1 (T j).2.1 (T j).2.2.1 ∈ GW) (he : h a = some (.inr (ci, fs))) (hj : j < N) (hlen : j < fs.length) (hfin : (T j).2.2.2 = true) (hin2 : (xY M).name = "<init>") (hdecl : (T j).1 = (xY M).cls) (hn : narrow (ty0 j) v = v) (hfit : fits (ty0 j) v = true) (kk : PW E M Q k n (pc + 3) lo r (va_up h a (some (.inr (ci, fs.set j v))))) : PW E M Q k n pc lo (v :: .ref a :: r) h := by
  intro l p e s m args below meth c C H locs ls hH hS hlv
  obtain ⟨hc, hin, hty, hnm⟩ := hk
  have hts := C.2.2.2.2.2.2.1
  have hK := C.2.2.2.2.2.2.2.1.1
  have hown := C.2.2.2.2.2.1
  have hap := va_apart (own := "") hts hin ty0 hty hnm hK hc
  obtain ⟨⟨r', h1, cell, q1, q2, q3, q4⟩, hza⟩ := hH.1 a _ he
  have hr : r' = (Cn, T, N) := Option.some.inj (h1.symm.trans hc)
  subst hr
  obtain ⟨hSl, hfc, kC, hkC, hkind⟩ := hK.1 ci _ hc
  obtain ⟨cf, kf, fi, f, hi, hsl⟩ := hSl j hj
  have hlay := hts _ (hin _ (u_in_lay hj))
  unfold u_lay at hlay
  rw [if_pos hfin] at hlay
  have hst := (u_facts hfc hkC (u_lays hts hin hj) hi).1
  have hcf : m.cls = cf := by
    obtain ⟨_, _, c', _, _, _, -, -, hf', -, -, -, hown2, -⟩ := Cond.laysFinal_spec hlay
    have e1 : c' = cf := by have := hi.symm.trans hf'; simp at this; exact this.1.symm
    rw [hdecl] at hown2
    rw [← e1]; exact Option.some.inj (hown.symm.trans hown2)
  have h6 := u_fits hfc hkC hkind (Or.inr hlay) hi (hty j hj) hn hfit
  refine W.putFinK C.1 C.2.1 hown (hts _ hl) hi hst hcf (C.2.2.2.2.2.2.2.2.2.trans hin2) (by rw [q2]; exact h6) q1 q3 (by rw [hsl]; exact k2_hasslot (q4 j hj)) rfl rfl hd fun H' e1 e2 e3 => ?_
  rw [hsl] at e1 ⊢
  exact kk l p e s m args below meth c C H' _ ls (xHold_put hH he ⟨_, hc, t_OB.to (V := updV (vp_V fs) j v) ⟨_, e1, q2, q3, t_set q4 hap hj v⟩ (fun i _ => vp_updV_set hlen v i)⟩ e3 e2) (hS.put e2 e3 hza) hlv
theorem px_iald {a len : Nat} {f : Nat → Int32} {i : Int32} (hd : decode (xC M) pc = .ok (.iaload, 1)) (ha : h a = some (.inl (E.1.2 0, len, .inl f))) (hin : vp_in i len) (kk : PW E M Q k n (pc + 1) lo (.int (f i.toNatClampNeg) :: r) h) : PW E M Q k n pc lo (.int i :: .ref a :: r) h := fun l p e s m args below meth c C H locs ls hH hS hlv => va_iald C.1 C.2.1 C.2.2.2.2.2.2.2.1.1 (va_P_one (hH.1 a _ ha).1) 0 0 rfl rfl hin hd (kk l p e s m args below meth c C H locs ls hH hS hlv)
theorem px_cald {a len : Nat} {f : Nat → Int32} {i : Int32} (hd : decode (xC M) pc = .ok (.caload, 1)) (ha : h a = some (.inl (E.1.2 2, len, .inl f))) (hin : vp_in i len) (kk : PW E M Q k n (pc + 1) lo (.int (f i.toNatClampNeg) :: r) h) : PW E M Q k n pc lo (.int i :: .ref a :: r) h := fun l p e s m args below meth c C H locs ls hH hS hlv => va_cald C.1 C.2.1 C.2.2.2.2.2.2.2.1.1 (va_P_one (hH.1 a _ ha).1) 0 2 rfl rfl hin hd (kk l p e s m args below meth c C H locs ls hH hS hlv)
theorem px_lald {a len : Nat} {f : Nat → Int64} {i : Int32} (hd : decode (xC M) pc = .ok (.laload, 1)) (ha : h a = some (.inl (E.1.2 1, len, .inr (.inl f)))) (hin : vp_in i len) (kk : PW E M Q k n (pc + 1) lo (.long (f i.toNatClampNeg) :: r) h) : PW E M Q k n pc lo (.int i :: .ref a :: r) h := fun l p e s m args below meth c C H locs ls hH hS hlv => va_lald C.1 C.2.1 C.2.2.2.2.2.2.2.1.1 (va_P_one (hH.1 a _ ha).1) 0 1 rfl rfl hin hd (kk l p e s m args below meth c C H locs ls hH hS hlv)
theorem px_aald3 {a len : Nat} {f : Nat → Option Nat} {i : Int32} (hd : decode (xC M) pc = .ok (.aaload, 1)) (ha : h a = some (.inl (E.1.2 3, len, .inr (.inr (.inr (.inr f)))))) (hin : vp_in i len) (kk : PW E M Q k n (pc + 1) lo (va_rf (f i.toNatClampNeg) :: r) h) : PW E M Q k n pc lo (.int i :: .ref a :: r) h := fun l p e s m args below meth c C H locs ls hH hS hlv => va_aldq C.1 C.2.1 C.2.2.2.2.2.2.2.1.1 (va_P_one (hH.1 a _ ha).1) 0 3 rfl rfl hin hd (kk l p e s m args below meth c C H locs ls hH hS hlv)
theorem px_aald4 {a len : Nat} {f : Nat → Option Nat} {i : Int32} (hd : decode (xC M) pc = .ok (.aaload, 1)) (ha : h a = some (.inl (E.1.2 4, len, .inr (.inr (.inr (.inr f)))))) (hin : vp_in i len) (kk : PW E M Q k n (pc + 1) lo (va_rf (f i.toNatClampNeg) :: r) h) : PW E M Q k n pc lo (.int i :: .ref a :: r) h := fun l p e s m args below meth c C H locs ls hH hS hlv => va_aldq C.1 C.2.1 C.2.2.2.2.2.2.2.1.1 (va_P_one (hH.1 a _ ha).1) 0 4 rfl rfl hin hd (kk l p e s m args below meth c C H locs ls hH hS hlv)
theorem px_iast {a len : Nat} {f : Nat → Int32} {i x : Int32} (hd : decode (xC M) pc = .ok (.iastore, 1)) (ha : h a = some (.inl (E.1.2 0, len, .inl f))) (hin : vp_in i len) (kk : PW E M Q k n (pc + 1) lo r (va_up h a (some (.inl (E.1.2 0, len, .inl (upd f i.toNatClampNeg x)))))) : PW E M Q k n pc lo (.int x :: .int i :: .ref a :: r) h := by
  intro l p e s m args below meth c C H locs ls hH hS hlv
  have hK := C.2.2.2.2.2.2.2.1.1
  obtain ⟨hc, hza⟩ := hH.1 a _ ha
  refine W.iast C.1 C.2.1 hc ((hK.2 0 (E.1.2 0, .int) rfl).1 len (fun j => .int (f j))) (fun q => by cases q) (by show ¬ (i < 0 ∨ (arrV _ _ _).slots.size ≤ _); rw [arrV_size]; exact hin) rfl rfl hd fun H1 e1 z oq => ?_
  refine kk l p e s m args below meth c C H1 _ ls (xHold_put hH ha ?_ oq z) (hS.put z oq hza) hlv
  show H1[a]? = some (vp_cell _ _)
  rw [e1, vp_cell_i, vp_cell_i, arrV_store]
  congr 2
  funext q
  by_cases hq : q = i.toNatClampNeg
  · subst hq
    simp [updV, upd]
  · simp [updV, upd, hq]
theorem px_cast {a len : Nat} {f : Nat → Int32} {i x : Int32} (hd : decode (xC M) pc = .ok (.castore, 1)) (ha : h a = some (.inl (E.1.2 2, len, .inl f))) (hin : vp_in i len) (kk : PW E M Q k n (pc + 1) lo r (va_up h a (some (.inl (E.1.2 2, len, .inl (upd f i.toNatClampNeg (vp_nar .char x))))))) : PW E M Q k n pc lo (.int x :: .int i :: .ref a :: r) h := by
  intro l p e s m args below meth c C H locs ls hH hS hlv
  have hK := C.2.2.2.2.2.2.2.1.1
  obtain ⟨hc, hza⟩ := hH.1 a _ ha
  refine W.cast C.1 C.2.1 hc ((hK.2 2 (E.1.2 2, .char) rfl).1 len (fun j => .int (f j))) (fun q => by cases q) (by show ¬ (i < 0 ∨ (arrV _ _ _).slots.size ≤ _); rw [arrV_size]; exact hin) rfl rfl hd fun H1 e1 z oq => ?_
  refine kk l p e s m args below meth c C H1 _ ls (xHold_put hH ha ?_ oq z) (hS.put z oq hza) hlv
  show H1[a]? = some (vp_cell _ _)
  rw [e1, vp_cell_i, vp_cell_i, arrV_store]
  congr 2
  funext q
  by_cases hq : q = i.toNatClampNeg
  · subst hq
    simp [updV, upd, vp_nar, narrow]
  · simp [updV, upd, hq]
theorem px_last {a len : Nat} {f : Nat → Int64} {i : Int32} {x : Int64} (hd : decode (xC M) pc = .ok (.lastore, 1)) (ha : h a = some (.inl (E.1.2 1, len, .inr (.inl f)))) (hin : vp_in i len) (kk : PW E M Q k n (pc + 1) lo r (va_up h a (some (.inl (E.1.2 1, len, .inr (.inl (vp_updL f i.toNatClampNeg x))))))) : PW E M Q k n pc lo (.long x :: .int i :: .ref a :: r) h := by
  intro l p e s m args below meth c C H locs ls hH hS hlv
  have hK := C.2.2.2.2.2.2.2.1.1
  obtain ⟨hc, hza⟩ := hH.1 a _ ha
  refine W.last C.1 C.2.1 hc ((hK.2 1 (E.1.2 1, .long) rfl).1 len (fun j => .long (f j))) (fun q => by cases q) (by show ¬ (i < 0 ∨ (arrV _ _ _).slots.size ≤ _); rw [arrV_size]; exact hin) rfl rfl hd fun H1 e1 z oq => ?_
  refine kk l p e s m args below meth c C H1 _ ls (xHold_put hH ha ?_ oq z) (hS.put z oq hza) hlv
  show H1[a]? = some (vp_cell _ _)
  rw [e1, vp_cell_l, vp_cell_l, arrV_store]
  congr 2
  funext q
  by_cases hq : q = i.toNatClampNeg
  · subst hq
    simp [updV, vp_updL]
  · simp [updV, vp_updL, hq]
/-- a call's run, to the pure judgement -/
theorem px_run {M2 : xM} {Q2 : Option Value → xHp → Prop} {st : List Value} {a : Array Value} {l : Launch} {p : Program} {e : Env} {s : State} {m : MethodId} {args : Array Value} {below : List Frame} {meth : Method} {c : Code} {H : Heap} {locs : List Loc} {ls : Array Slot} (C : xCx E M p s m args meth c) (hS : va_S (xA E) s.heap H locs) (hlv : xLv ls (xL M) lo)
    (hr : va_Run p l e (xRm M) s m args below meth c H locs k n (xmc M2) (xms M2) (F0 m pc ls st) r (xPost E Q2 a) (xA E)) (kk : ∀ (v : Option Value) (h' : xHp), Q2 v h' → PW E M Q (k + xmc M2) (n + xms M2) (pc + 3) lo (v.toList ++ r) h') :
    W p l e (xRm M) s m args below meth c H locs k n (MQ below (xPost E Q) args s (xmc M) (xms M) (xA E)) (F0 m pc ls st) := by
  intro T hT X
  obtain ⟨v, st₀, t, T', L, h0, X', hL, e1, e2, ⟨⟨rv, h', hv, hq, hh⟩, hz, hk⟩, st⟩ := hr T hT X
  cases hv
  rw [h0] at hz hk
  obtain ⟨t2, a1, b1⟩ := kk v h' hq l p e s m args below meth c C T'.heap (locs ++ L) ls (by rw [e1]; exact hh) ⟨Nat.le_trans hS.1 (by rw [e1]; exact hz), fun q h1 h2 => by rw [e1, hk q (Nat.lt_of_lt_of_le h1 hS.1) h2]; exact hS.2.1 q h1 h2, fun q hq => by
      rcases List.mem_append.mp hq with h | h
      · exact hS.2.2 q h
      · exact hL q h⟩ hlv T' rfl X'
  exact ⟨t2, st t2 a1, b1⟩
theorem xPre_blind (av : List Value) : FrameBlind (va_Pc av (xPre E h)) := by
  intro a U g mk q
  obtain ⟨q0, q1, q2, q3⟩ := q
  exact ⟨q0, q1, xVm_same (s := U) rfl q2, xStr_same (s := U) rfl q3⟩
theorem xPre_of {s U : State} {H : Heap} {locs : List Loc} (hV : xVm E s) (hSt : xStr E s s.heap) (hS : va_S (xA E) s.heap H locs) (hH : xHold E h H) (hU : U.heap = H) (hW : s.WarmedH U.vm) : xPre E h U :=
  ⟨by rw [hU]; exact hH, xVm_warm hW hV, by rw [hU]; exact xStr_warm hW (xStr_kept hSt (fun a h1 h2 => hS.2.1 a h1 h2))⟩
def xMW (M : xM) (np : Nat) : Prop := Cond.code (xY M) (xC M) (xL M) (xR M) ∈ GW ∧ Cond.initialized (xY M).cls ∈ GW ∧ ((xY M).cls ≠ "java/lang/invoke/MethodHandle" ∧ (xY M).cls ≠ "java/lang/invoke/VarHandle" ∧ (parseMethodDescriptor (xY M).desc).map (fun d => d.parameters.length) = some np)
theorem px_callV {M2 : xM} {Q2 : Option Value → xHp → Prop} {idx np b ci N : Nat} {As fs st : List Value} {T : u_T} (hm : PMet E M2 (.ref b :: As) h Q2) (hw : xMW M2 np) (hi : Cond.instanceMethod (xY M2) ∈ GW) (hse : Cond.selects (xY M2).cls (xY M2) (xY M2) ∈ GW) (hl : xML (xY M).cls idx (xY M2)) (hd : decode (xC M) pc = .ok (.invokevirtual idx, 3)) (hb : h b = some (.inr (ci, fs))) (hc : vwCl[ci]? = some ((xY M2).cls, T, N)) (hR : xd M2 + 1 ≤ xd M ∧ 8 + (xL M2 + 11) + 39 * xd M2 ≤ 39 * xd M) (hn : As.length = np) (hst : st = As.reverse ++ .ref b :: r) (hcat : (r.map fun v => v.category).sum ≤ 8) (hf : k + xmc M2 ≤ xmc M ∧ n + xms M2 ≤ xms M)
    (kk : ∀ (v : Option Value) (h' : xHp), Q2 v h' → PW E M Q (k + xmc M2) (n + xms M2) (pc + 3) lo (v.toList ++ r) h') : PW E M Q k n pc lo st h := by
  subst hst
  intro l p e s m args below meth c C H locs ls hH hS hlv
  have hts := C.2.2.2.2.2.2.1
  have hrecv : ∃ cell : Cell, H[b]? = some cell ∧ cell.vm.isStatics = false ∧ s.vm.findClass (xY M2).cls = some cell.cls := va_recv (q := ((xY M2).cls, T, N)) C.2.2.2.2.2.2.2.1.1 (va_P_one (hH.1 b _ hb).1) hc (q0 := 0) rfl
  have hpre : ∀ U : State, U.heap = H → s.WarmedH U.vm → va_Pc (.ref b :: As) (xPre E h) (Value.ref b :: As).toArray U := fun U hU hW => ⟨rfl, xPre_of C.2.2.2.2.2.2.2.1 C.2.2.2.2.2.2.2.2.1 hS hH hU hW⟩
  rcases hl with hl | ⟨host, hl⟩
  · refine px_run (M2 := M2) C hS hlv (va_runV (bytes := xC M2) (maxL := xL M2) (ret := xR M2) ⟨C.1, C.2.1, C.2.2.1, C.2.2.2.2.2.1, hts⟩ (hm l) ⟨callB_of np hts (gw_cons hw.1) rfl rfl rfl (hts _ hw.2.1) (hts _ hl) hw.2.2 hR, hts _ hi, hts _ hse⟩ ⟨xPre_blind _, hrecv, hpre⟩ rfl hn hlv.1 rfl (lv_room hcat) hd hf) kk
  · refine px_run (M2 := M2) C hS hlv (va_runVN (bytes := xC M2) (maxL := xL M2) (ret := xR M2) (C := (xY M2).cls) (host := host) ⟨C.1, C.2.1, C.2.2.1, C.2.2.2.2.2.1, hts⟩ (hm l) ⟨va_cnB np hts (gw_cons hw.1) rfl rfl rfl (C.2.2.2.2.2.2.2.1.2 _ hl) (hts _ hw.2.1) hw.2.2 hR, hts _ hi, hts _ hse⟩ ⟨xPre_blind _, hrecv, hpre⟩ rfl hn hlv.1 rfl (lv_room hcat) hd hf) kk
theorem px_callS {M2 : xM} {Q2 : Option Value → xHp → Prop} {idx np : Nat} {As st : List Value} (hm : PMet E M2 As h Q2) (hw : xMW M2 np) (hi : Cond.static (xY M2) ∈ GW) (hl : xML (xY M).cls idx (xY M2)) (hd : decode (xC M) pc = .ok (.invokestatic idx, 3)) (hR : xd M2 + 1 ≤ xd M ∧ 8 + (xL M2 + 11) + 39 * xd M2 ≤ 39 * xd M) (hn : As.length = np) (hst : st = As.reverse ++ r) (hcat : (r.map fun v => v.category).sum ≤ 8) (hf : k + xmc M2 ≤ xmc M ∧ n + xms M2 ≤ xms M)
    (kk : ∀ (v : Option Value) (h' : xHp), Q2 v h' → PW E M Q (k + xmc M2) (n + xms M2) (pc + 3) lo (v.toList ++ r) h') : PW E M Q k n pc lo st h := by
  subst hst
  intro l p e s m args below meth c C H locs ls hH hS hlv
  have hts := C.2.2.2.2.2.2.1
  have hpre : ∀ U : State, U.heap = H → s.WarmedH U.vm → va_Pc As (xPre E h) As.toArray U := fun U hU hW => ⟨rfl, xPre_of C.2.2.2.2.2.2.2.1 C.2.2.2.2.2.2.2.2.1 hS hH hU hW⟩
  rcases hl with hl | ⟨host, hl⟩
  · refine px_run (M2 := M2) C hS hlv (va_runS (bytes := xC M2) (maxL := xL M2) (ret := xR M2) ⟨C.1, C.2.1, C.2.2.1, C.2.2.2.2.2.1, hts⟩ (hm l) ⟨callB_of np hts (gw_cons hw.1) rfl rfl rfl (hts _ hw.2.1) (hts _ hl) hw.2.2 hR, hts _ hi⟩ ⟨xPre_blind _, hpre⟩ rfl hn hlv.1 rfl (lv_room hcat) hd hf) kk
  · refine px_run (M2 := M2) C hS hlv (va_runSN (bytes := xC M2) (maxL := xL M2) (ret := xR M2) (host := host) ⟨C.1, C.2.1, C.2.2.1, C.2.2.2.2.2.1, hts⟩ (hm l) ⟨va_cnB np hts (gw_cons hw.1) rfl rfl rfl (C.2.2.2.2.2.2.2.1.2 _ hl) (hts _ hw.2.1) hw.2.2 hR, hts _ hi, trivial⟩ ⟨xPre_blind _, hpre⟩ rfl hn hlv.1 rfl (lv_room hcat) hd hf) kk
end PXH
