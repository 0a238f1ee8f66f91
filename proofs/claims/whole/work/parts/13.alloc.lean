def xSz (E : xE) (h : xHp) (sz : Nat) : Prop := E.2 0 ≤ sz ∧ ∀ a : Nat, E.2 0 ≤ a → ((h a).isSome = true ↔ a < sz)
theorem xSz_of {E : xE} {h : xHp} {sz : Nat} {H : Heap} (h1 : xSz E h sz) (h2 : xHold E h H) : H.size = sz := by
  obtain ⟨a1, a2⟩ := h1
  obtain ⟨-, b2, b3⟩ := h2
  have c1 := (a2 sz a1).symm.trans (b2 sz a1)
  have c2 := (a2 H.size b3).symm.trans (b2 H.size b3)
  omega
theorem xSz_new {E : xE} {h : xHp} {sz : Nat} {e : va_E} (h1 : xSz E h sz) : xSz E (va_up h sz (some e)) (sz + 1) := by
  obtain ⟨a1, a2⟩ := h1
  refine ⟨by omega, fun a ha => ?_⟩
  by_cases hs : a = sz
  · subst hs
    rw [va_up_self]
    simp
  · rw [va_up_ne _ _ hs, a2 a ha]
    omega
theorem xSz_put {E : xE} {h : xHp} {sz a : Nat} {e0 e : va_E} (h1 : xSz E h sz) (ha : h a = some e0) : xSz E (va_up h a (some e)) sz := by
  obtain ⟨a1, a2⟩ := h1
  refine ⟨a1, fun q hq => ?_⟩
  rw [← a2 q hq]
  by_cases hs : q = a
  · subst hs
    rw [va_up_self, ha]
    simp
  · rw [va_up_ne _ _ hs]
theorem xSz_cong {E : xE} {h h2 : xHp} {sz : Nat} (h1 : xSz E h sz) (he : ∀ a, E.2 0 ≤ a → (h2 a).isSome = (h a).isSome) : xSz E h2 sz := ⟨h1.1, fun a ha => by rw [he a ha]; exact h1.2 a ha⟩
section PXA
variable {E : xE} {M : xM} {Q : Option Value → xHp → Prop} {k n pc : Nat} {lo : List (Option Value)} {r : List Value} {h : xHp}
theorem px_new {ci N idx sz : Nat} {Cn : String} {T : u_T} {ty0 : Nat → FieldType} {fs : List Value} (hk : xCl ci Cn T N ty0) (hd : decode (xC M) pc = .ok (.new idx, 3)) (hl : Cond.classLink (xY M).cls idx Cn ∈ GW) (hins : Cond.instantiable Cn N ∈ GW) (hini : Cond.initialized Cn ∈ GW) (hsz : xSz E h sz) (hfs : ∀ j, j < N → defaultValue (ty0 j) = vp_V fs j) (hf : k + 1 ≤ xmc M ∧ n + N ≤ xms M) (kk : PW E M Q (k + 1) (n + N) (pc + 3) lo (.ref sz :: r) (va_up h sz (some (.inr (ci, fs))))) : PW E M Q k n pc lo r h := by
  intro l p e s m args below meth c C H locs ls hH hS hlv
  obtain ⟨hc, hin, hty, hnm⟩ := hk
  have hts := C.2.2.2.2.2.2.1
  have hK := C.2.2.2.2.2.2.2.1.1
  have hKn := hK.1 ci _ hc
  have hz := xSz_of hsz hH
  subst hz
  refine W.newcK C.1 C.2.1 C.2.2.2.2.2.1 (hts _ hl) (hts _ hins) (hts _ hini) rfl hd hf.1 hf.2 hKn.2.1 rfl fun H1 kC hkC e1 z1 o1 => ?_
  exact kk l p e s m args below meth c C H1 locs ls (xHold_new hH ⟨_, hc, (u_born ty0 hts hin hKn hkC e1 hty).to hfs⟩ o1 z1) ⟨Nat.le_trans hS.1 (by omega), fun x h1 h2 => (o1 x (Nat.lt_of_lt_of_le h1 hS.1)).trans (hS.2.1 x h1 h2), hS.2.2⟩ hlv
theorem px_newa {atype : ArrayType} {t0 sz len : Nat} {ty : FieldType} {a0 : vp_A} {i : Int32} (hd : decode (xC M) pc = .ok (.newarray atype, 2)) (hw : Cond.arrayClass (newarray.typeOf atype) ∈ GW) (hty : newarray.typeOf atype = ty) (ht : (xTys E)[t0]? = some (E.1.2 t0, ty)) (hra : ∀ (U : State) (c1 c2 : ClassId), va_RA U c1 ty → U.vm.findClass ("[" ++ ty.toString) = some c2 → c1 = c2) (ha : ∀ cA : ClassId, vp_cell cA a0 = arrV cA len (fun _ => defaultValue ty)) (hn : ¬ i < 0) (hN : i.toNatClampNeg = len) (hbytes : len * componentBytes ty ≤ 536870912) (hsz : xSz E h sz) (hf : k + 1 ≤ xmc M ∧ n + len ≤ xms M) (kk : PW E M Q (k + 1) (n + len) (pc + 2) lo (.ref sz :: r) (va_up h sz (some (.inl (E.1.2 t0, a0))))) : PW E M Q k n pc lo (.int i :: r) h := by
  subst hty
  intro l p e s m args below meth c C H locs ls hH hS hlv
  have hts := C.2.2.2.2.2.2.1
  have hK := C.2.2.2.2.2.2.2.1.1
  have hz := xSz_of hsz hH
  subst hz
  refine va_newaK C.1 C.2.1 (hts _ hw) rfl hd rfl hn hN hbytes hf.1 hf.2 rfl fun H1 cA e1 z1 o1 hAr hNm => ?_
  have hcA : E.1.2 t0 = cA := hra s _ _ (hK.2 t0 _ ht).2 hNm
  subst hcA
  exact kk l p e s m args below meth c C H1 locs ls (xHold_new hH (by show H1[H.size]? = some (vp_cell _ _); rw [ha]; exact e1) o1 z1) ⟨Nat.le_trans hS.1 (by omega), fun x h1 h2 => (o1 x (Nat.lt_of_lt_of_le h1 hS.1)).trans (hS.2.1 x h1 h2), hS.2.2⟩ hlv
theorem px_objInit {idx a : Nat} (hd : decode (xC M) pc = .ok (.invokespecial idx, 3)) (hl : Cond.methodLink (xY M).cls idx Lib.objectInit ∈ GW) (hi : Cond.instanceMethod Lib.objectInit ∈ GW) (hc : Cond.code Lib.objectInit ⟨#[0xb1]⟩ 1 none ∈ GW) (hR : 1 ≤ xd M) (hcat : (r.map fun v => v.category).sum ≤ 8) (kk : PW E M Q k n (pc + 3) lo r h) : PW E M Q k n pc lo (.ref a :: r) h := by
  intro l p e s m args below meth c C H locs ls hH hS hlv
  have hts := C.2.2.2.2.2.2.1
  refine W.objInit C.1 C.2.1 C.2.2.2.2.2.1 (hts _ hl) (hts _ hi) (hts _ hc) rfl (by rw [C.2.2.1]; exact hlv.1) rfl hd hR (by show 2 * 0 + _ + 12 ≤ 39 * xd M; omega) ?_
  exact W.eq (g2 := F0 m (pc + 3) ls r) rfl (kk l p e s m args below meth c C H locs ls hH hS hlv)
theorem px_callI {M2 : xM} {Q2 : Option Value → xHp → Prop} {idx np b : Nat} {As st : List Value} (hm : PMet E M2 (.ref b :: As) h Q2) (hw : xMW M2 np) (hi : Cond.instanceMethod (xY M2) ∈ GW) (hnm : (xY M2).name = "<init>") (hrt : xR M2 = none) (hl : xML (xY M).cls idx (xY M2)) (hd : decode (xC M) pc = .ok (.invokespecial idx, 3)) (hR : xd M2 + 1 ≤ xd M ∧ 8 + (xL M2 + 11) + 39 * xd M2 ≤ 39 * xd M) (hn : As.length = np) (hst : st = As.reverse ++ .ref b :: r) (hcat : (r.map fun v => v.category).sum ≤ 8) (hf : k + xmc M2 ≤ xmc M ∧ n + xms M2 ≤ xms M)
    (kk : ∀ (v : Option Value) (h' : xHp), Q2 v h' → PW E M Q (k + xmc M2) (n + xms M2) (pc + 3) lo (v.toList ++ r) h') : PW E M Q k n pc lo st h := by
  subst hst
  intro l p e s m args below meth c C H locs ls hH hS hlv
  have hts := C.2.2.2.2.2.2.1
  have hm := hm l
  have hw1 := hw.1
  rw [hrt] at hm hw1
  have hpre : ∀ U : State, U.heap = H → s.WarmedH U.vm → va_Pc (.ref b :: As) (xPre E h) (Value.ref b :: As).toArray U := fun U hU hW => ⟨rfl, xPre_of C.2.2.2.2.2.2.2.1 C.2.2.2.2.2.2.2.2.1 hS hH hU hW⟩
  rcases hl with hl | ⟨host, hl⟩
  · refine px_run (M2 := M2) C hS hlv (va_runI (bytes := xC M2) (maxL := xL M2) ⟨C.1, C.2.1, C.2.2.1, C.2.2.2.2.2.1, hts⟩ hm ⟨callB_of np hts (gw_cons hw1) rfl rfl rfl (hts _ hw.2.1) (hts _ hl) hw.2.2 hR, hnm, hts _ hi⟩ ⟨xPre_blind _, hpre⟩ rfl hn hlv.1 rfl (lv_room hcat) hd hf) kk
  · refine px_run (M2 := M2) C hS hlv (va_runIN (bytes := xC M2) (maxL := xL M2) (host := host) ⟨C.1, C.2.1, C.2.2.1, C.2.2.2.2.2.1, hts⟩ hm ⟨va_cnB np hts (gw_cons hw1) rfl rfl rfl (C.2.2.2.2.2.2.2.1.2 _ hl) (hts _ hw.2.1) hw.2.2 hR, hnm, hts _ hi⟩ ⟨xPre_blind _, hpre⟩ rfl hn hlv.1 rfl (lv_room hcat) hd hf) kk
theorem px_min {idx : Nat} {x y : Int32} (hd : decode (xC M) pc = .ok (.invokestatic idx, 3)) (hl : Cond.methodLink (xY M).cls idx Lib.Math.min.name ∈ GW) (h1 : Cond.static Lib.Math.min.name ∈ GW) (h2 : Cond.initialized "java/lang/Math" ∈ GW) (h3 : Cond.code Lib.Math.min.name Lib.Math.min.code 2 (some .int) ∈ GW) (hR : 1 ≤ xd M) (hcat : (r.map fun v => v.category).sum ≤ 8) (hf : k ≤ xmc M ∧ n ≤ xms M) (kk : PW E M Q k n (pc + 3) lo (.int (if y < x then y else x) :: r) h) : PW E M Q k n pc lo (.int y :: .int x :: r) h := by
  intro l p e s m args below meth c C H locs ls hH hS hlv
  have hts := C.2.2.2.2.2.2.1
  exact va_mmin C.1 C.2.1 (by rw [C.2.2.1]; exact hlv.1.symm) C.2.2.2.2.2.1 (hts _ hl) (hts _ h1) (hts _ h2) (hts _ h3) hR (by show _ + 13 ≤ 39 * xd M; omega) hf.1 hf.2 hd (kk l p e s m args below meth c C H locs ls hH hS hlv)
theorem px_max {idx : Nat} {x y : Int32} (hd : decode (xC M) pc = .ok (.invokestatic idx, 3)) (hl : Cond.methodLink (xY M).cls idx Lib.Math.max.name ∈ GW) (h1 : Cond.static Lib.Math.max.name ∈ GW) (h2 : Cond.initialized "java/lang/Math" ∈ GW) (h3 : Cond.code Lib.Math.max.name Lib.Math.max.code 2 (some .int) ∈ GW) (hR : 1 ≤ xd M) (hcat : (r.map fun v => v.category).sum ≤ 8) (hf : k ≤ xmc M ∧ n ≤ xms M) (kk : PW E M Q k n (pc + 3) lo (.int (if x < y then y else x) :: r) h) : PW E M Q k n pc lo (.int y :: .int x :: r) h := by
  intro l p e s m args below meth c C H locs ls hH hS hlv
  have hts := C.2.2.2.2.2.2.1
  exact va_mmax C.1 C.2.1 (by rw [C.2.2.1]; exact hlv.1.symm) C.2.2.2.2.2.1 (hts _ hl) (hts _ h1) (hts _ h2) (hts _ h3) hR (by show _ + 13 ≤ 39 * xd M; omega) hf.1 hf.2 hd (kk l p e s m args below meth c C H locs ls hH hS hlv)
end PXA
