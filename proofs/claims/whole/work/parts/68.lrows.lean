/-! ===== the law's walk: a judgement that knows the script ===== -/
def lwX (E : xE) (p : Program) (s : State) (m : MethodId) (meth : Method) (c : Code) (b L : Nat) (xs : Nat → Int32) : Prop := lw_At p s m meth c b L xs ∧ xVm E s ∧ xStr E s s.heap ∧ E.2 0 = s.heap.size
def LW (E : xE) (b0 L0 : Nat) (xs : Nat → Int32) (k n pc : Nat) (lo : List (Option Value)) (st : List Value) (h : xHp) : Prop :=
  ∀ (l : Launch) (p : Program) (e : Env) (s : State) (m : MethodId) (below : List Frame) (meth : Method) (c : Code), lwX E p s m meth c b0 L0 xs → ∀ (H : Heap) (locs : List Loc) (ls : Array Slot), xHold E h H → va_S (xA E) s.heap H locs → xLv ls 4 lo →
    W p l e room_1 s m #[Value.ref b0] below meth c H locs k n (lw_Z below #[Value.ref b0] s) (F0 m pc ls st)
theorem lwX.words {E : xE} {p : Program} {s : State} {m : MethodId} {meth : Method} {c : Code} {b L : Nat} {xs : Nat → Int32} (C : lwX E p s m meth c b L xs) : ∀ w ∈ GW, w.before #[Value.ref b] s = true := fun w hw => C.1.2.2.2.2.2.1 w (List.mem_filter.mp hw).1
section LXR
variable {E : xE} {b0 L0 : Nat} {xs : Nat → Int32} {k n pc : Nat} {lo : List (Option Value)} {r : List Value} {h : xHp}
theorem qx_topi {x y : Int32} (he : x = y) (kk : LW E b0 L0 xs k n pc lo (.int y :: r) h) : LW E b0 L0 xs k n pc lo (.int x :: r) h := he ▸ kk
theorem qx_heap {h2 : xHp} (e3 : h = h2) (kk : LW E b0 L0 xs k n pc lo r h2) : LW E b0 L0 xs k n pc lo r h := by
  subst e3; exact kk
theorem qx_eq {lo2 : List (Option Value)} (e1 : lo = lo2) (kk : LW E b0 L0 xs k n pc lo2 r h) : LW E b0 L0 xs k n pc lo r h := by
  subst e1; exact kk
theorem qx_kn {k2 n2 : Nat} (e1 : k = k2) (e2 : n = n2) (kk : LW E b0 L0 xs k2 n2 pc lo r h) : LW E b0 L0 xs k n pc lo r h := by
  subst e1; subst e2; exact kk
theorem qx_iconst {q : Int} {v : Int32} (hd : decode code pc = .ok (.iconst q, 1)) (hv : Int32.ofInt q = v) (kk : LW E b0 L0 xs k n (pc + 1) lo (.int v :: r) h) : LW E b0 L0 xs k n pc lo (r) h := fun l p e s m below meth c C H locs ls hH hS hl => lv_iconst C.1.1 C.1.2.1 hd hv (kk l p e s m below meth c C H locs ls hH hS hl)
theorem qx_bipush {q : Int} {v : Int32} (hd : decode code pc = .ok (.bipush q, 2)) (hv : (Int8.ofInt q).toInt32 = v) (kk : LW E b0 L0 xs k n (pc + 2) lo (.int v :: r) h) : LW E b0 L0 xs k n pc lo (r) h := fun l p e s m below meth c C H locs ls hH hS hl => lv_bipush C.1.1 C.1.2.1 hd hv (kk l p e s m below meth c C H locs ls hH hS hl)
theorem qx_ldc2 {idx : Nat} {v : Int64} (hd : decode code pc = .ok (.ldc2_w idx, 3)) (hc : Cond.constantLong RL idx v ∈ GW) (kk : LW E b0 L0 xs k n (pc + 3) lo (.long v :: r) h) : LW E b0 L0 xs k n pc lo (r) h := fun l p e s m below meth c C H locs ls hH hS hl => lv_ldc2 C.1.1 C.1.2.1 C.1.2.2.2.2.1 (C.words _ hc) hd (kk l p e s m below meth c C H locs ls hH hS hl)
theorem qx_iload_n {j : Fin 4} {x : Int32} (hd : decode code pc = .ok (.iload_n j, 1)) (hx : lo[(j : Nat)]? = some (some (.int x))) (kk : LW E b0 L0 xs k n (pc + 1) lo (.int x :: r) h) : LW E b0 L0 xs k n pc lo (r) h := fun l p e s m below meth c C H locs ls hH hS hl => lv_iload_n C.1.1 C.1.2.1 hd rfl (hl.2.2 _ _ hx) (kk l p e s m below meth c C H locs ls hH hS hl)
theorem qx_aload_n {j : Fin 4} {x : Nat} (hd : decode code pc = .ok (.aload_n j, 1)) (hx : lo[(j : Nat)]? = some (some (.ref x))) (kk : LW E b0 L0 xs k n (pc + 1) lo (.ref x :: r) h) : LW E b0 L0 xs k n pc lo (r) h := fun l p e s m below meth c C H locs ls hH hS hl => lv_aload_n C.1.1 C.1.2.1 hd rfl (hl.2.2 _ _ hx) (kk l p e s m below meth c C H locs ls hH hS hl)
theorem qx_istore_n {j : Fin 4} {x : Int32} (hd : decode code pc = .ok (.istore_n j, 1)) (hn : (j : Nat) < 4) (hok : xSt lo (j : Nat) = true) (kk : LW E b0 L0 xs k n (pc + 1) (lo.set (j : Nat) (some (.int x))) r h) : LW E b0 L0 xs k n pc lo (.int x :: r) h := fun l p e s m below meth c C H locs ls hH hS hl => lv_istore_n C.1.1 C.1.2.1 hd rfl (xLv_has hl) hn rfl (fun ls2 h2 => kk l p e s m below meth c C H locs ls2 hH hS (xLv_set hok h2))
theorem qx_astore_n {j : Fin 4} {x : Nat} (hd : decode code pc = .ok (.astore_n j, 1)) (hn : (j : Nat) < 4) (hok : xSt lo (j : Nat) = true) (kk : LW E b0 L0 xs k n (pc + 1) (lo.set (j : Nat) (some (.ref x))) r h) : LW E b0 L0 xs k n pc lo (.ref x :: r) h := fun l p e s m below meth c C H locs ls hH hS hl => lv_astore_n C.1.1 C.1.2.1 hd rfl (xLv_has hl) hn rfl (fun ls2 h2 => kk l p e s m below meth c C H locs ls2 hH hS (xLv_set hok h2))
theorem qx_iadd {x y : Int32} (hd : decode code pc = .ok (.iadd, 1))  (kk : LW E b0 L0 xs k n (pc + 1) lo (.int (x + y) :: r) h) : LW E b0 L0 xs k n pc lo (.int y :: .int x :: r) h := fun l p e s m below meth c C H locs ls hH hS hl => lv_iadd C.1.1 C.1.2.1 hd (kk l p e s m below meth c C H locs ls hH hS hl)
theorem qx_isub {x y : Int32} (hd : decode code pc = .ok (.isub, 1))  (kk : LW E b0 L0 xs k n (pc + 1) lo (.int (x - y) :: r) h) : LW E b0 L0 xs k n pc lo (.int y :: .int x :: r) h := fun l p e s m below meth c C H locs ls hH hS hl => lv_isub C.1.1 C.1.2.1 hd (kk l p e s m below meth c C H locs ls hH hS hl)
theorem qx_iand {x y : Int32} (hd : decode code pc = .ok (.iand, 1))  (kk : LW E b0 L0 xs k n (pc + 1) lo (.int (x &&& y) :: r) h) : LW E b0 L0 xs k n pc lo (.int y :: .int x :: r) h := fun l p e s m below meth c C H locs ls hH hS hl => lv_iand C.1.1 C.1.2.1 hd (kk l p e s m below meth c C H locs ls hH hS hl)
theorem qx_land {x y : Int64} (hd : decode code pc = .ok (.land, 1))  (kk : LW E b0 L0 xs k n (pc + 1) lo (.long (x &&& y) :: r) h) : LW E b0 L0 xs k n pc lo (.long y :: .long x :: r) h := fun l p e s m below meth c C H locs ls hH hS hl => lv_land C.1.1 C.1.2.1 hd (kk l p e s m below meth c C H locs ls hH hS hl)
theorem qx_lor {x y : Int64} (hd : decode code pc = .ok (.lor, 1))  (kk : LW E b0 L0 xs k n (pc + 1) lo (.long (x ||| y) :: r) h) : LW E b0 L0 xs k n pc lo (.long y :: .long x :: r) h := fun l p e s m below meth c C H locs ls hH hS hl => lv_lor C.1.1 C.1.2.1 hd (kk l p e s m below meth c C H locs ls hH hS hl)
theorem qx_lshl {x : Int64} {y : Int32} (hd : decode code pc = .ok (.lshl, 1))  (kk : LW E b0 L0 xs k n (pc + 1) lo (.long (x <<< (y.toInt64 &&& 63)) :: r) h) : LW E b0 L0 xs k n pc lo (.int y :: .long x :: r) h := fun l p e s m below meth c C H locs ls hH hS hl => lv_lshl C.1.1 C.1.2.1 hd rfl (kk l p e s m below meth c C H locs ls hH hS hl)
theorem qx_i2l {x : Int32} (hd : decode code pc = .ok (.i2l, 1))  (kk : LW E b0 L0 xs k n (pc + 1) lo (.long x.toInt64 :: r) h) : LW E b0 L0 xs k n pc lo (.int x :: r) h := fun l p e s m below meth c C H locs ls hH hS hl => lv_i2l C.1.1 C.1.2.1 hd rfl (kk l p e s m below meth c C H locs ls hH hS hl)
theorem qx_dup {a : Value} (hd : decode code pc = .ok (.dup, 1)) (hc : a.category = 1) (kk : LW E b0 L0 xs k n (pc + 1) lo (a :: a :: r) h) : LW E b0 L0 xs k n pc lo (a :: r) h := fun l p e s m below meth c C H locs ls hH hS hl => lv_dup C.1.1 C.1.2.1 hd hc (kk l p e s m below meth c C H locs ls hH hS hl)
theorem qx_icmp_eq {x y : Int32} {off : Int} (tgt : Nat) (hd : decode code pc = .ok (.if_icmp .eq off, 3)) (ht : (pc : Int) + off = (tgt : Int)) (kt : x = y → LW E b0 L0 xs k n tgt lo r h) (kf : ¬ x = y → LW E b0 L0 xs k n (pc + 3) lo r h) : LW E b0 L0 xs k n pc lo (.int y :: .int x :: r) h := fun l p e s m below meth c C H locs ls hH hS hl => lv_icmp_eq C.1.1 C.1.2.1 hd ht (fun z => kt z l p e s m below meth c C H locs ls hH hS hl) (fun z => kf z l p e s m below meth c C H locs ls hH hS hl)
theorem qx_icmp_gt {x y : Int32} {off : Int} (tgt : Nat) (hd : decode code pc = .ok (.if_icmp .gt off, 3)) (ht : (pc : Int) + off = (tgt : Int)) (kt : y < x → LW E b0 L0 xs k n tgt lo r h) (kf : ¬ y < x → LW E b0 L0 xs k n (pc + 3) lo r h) : LW E b0 L0 xs k n pc lo (.int y :: .int x :: r) h := fun l p e s m below meth c C H locs ls hH hS hl => lv_icmp_gt C.1.1 C.1.2.1 hd ht (fun z => kt z l p e s m below meth c C H locs ls hH hS hl) (fun z => kf z l p e s m below meth c C H locs ls hH hS hl)
theorem qx_goto {off : Int} (tgt : Nat) (hd : decode code pc = .ok (.goto off, 3)) (ht : (pc : Int) + off = (tgt : Int)) (kk : LW E b0 L0 xs k n tgt lo r h) : LW E b0 L0 xs k n pc lo r h := fun l p e s m below meth c C H locs ls hH hS hl => lv_goto C.1.1 C.1.2.1 hd ht (kk l p e s m below meth c C H locs ls hH hS hl)
theorem qx_tabIn {dflt lw hi : Int} {offs : Array Int} {len : Nat} {x : Int32} {off : Int} (tgt : Nat) (hd : decode code pc = .ok (.tableswitch dflt lw hi offs, len)) (h1 : ¬ x.toInt < lw) (h2 : ¬ hi < x.toInt) (ho : offs[(x.toInt - lw).toNat]? = some off) (ht : (pc : Int) + off = (tgt : Int)) (kk : LW E b0 L0 xs k n tgt lo r h) : LW E b0 L0 xs k n pc lo (.int x :: r) h := fun l p e s m below meth c C H locs ls hH hS hl => lv_tableIn C.1.1 C.1.2.1 hd h1 h2 ho ht (kk l p e s m below meth c C H locs ls hH hS hl)
theorem qx_tabOut {dflt lw hi : Int} {offs : Array Int} {len : Nat} {x : Int32} (tgt : Nat) (hd : decode code pc = .ok (.tableswitch dflt lw hi offs, len)) (hh : x.toInt < lw ∨ hi < x.toInt) (ht : (pc : Int) + dflt = (tgt : Int)) (kk : LW E b0 L0 xs k n tgt lo r h) : LW E b0 L0 xs k n pc lo (.int x :: r) h := fun l p e s m below meth c C H locs ls hH hS hl => lv_tableOut C.1.1 C.1.2.1 hd hh ht (kk l p e s m below meth c C H locs ls hH hS hl)
theorem qx_iinc {j : Nat} {q : Int} {x v : Int32} (hd : decode code pc = .ok (.iinc j q, 3)) (hx : lo[j]? = some (some (.int x))) (hv : x + Int32.ofInt q = v) (hn : j < 4) (hok : xSt lo j = true) (kk : LW E b0 L0 xs k n (pc + 3) (lo.set j (some (.int v))) r h) : LW E b0 L0 xs k n pc lo r h := by
  intro l p e s m below meth c C H locs ls hH hS hl
  obtain ⟨i, hi⟩ := List.getElem?_of_mem (xAsc_mem.mpr hx)
  exact lv_iinc (k := i) C.1.1 C.1.2.1 hd (xLv_has hl) hi hv hn rfl (fun ls2 h2 => kk l p e s m below meth c C H locs ls2 hH hS (xLv_set hok h2))
theorem qx_iaddN {a b : Nat} (hd : decode code pc = .ok (.iadd, 1)) (kk : LW E b0 L0 xs k n (pc + 1) lo (.int (nI (a + b)) :: r) h) : LW E b0 L0 xs k n pc lo (.int (nI b) :: .int (nI a) :: r) h := qx_iadd hd (qx_topi (nI_add a b) kk)
theorem qx_sld {i : Nat} (hd : decode code pc = .ok (.iaload, 1)) (hi : i < L0) (hL : L0 ≤ 3584) (kk : LW E b0 L0 xs k n (pc + 1) lo (.int (xs i) :: r) h) : LW E b0 L0 xs k n pc lo (.int (nI i) :: .ref b0 :: r) h := by
  intro l p e s m below meth c C H locs ls hH hS hl
  have hbA : ¬ xA E b0 := by
    show ¬ E.2 0 ≤ b0
    rw [C.2.2.2]
    exact Nat.not_le.mpr C.1.2.2.2.2.2.2.2.1
  refine va_sld C.1.1 C.1.2.1 C.1.2.2.2.2.2.2.1 C.1.2.2.2.2.2.2.2.1 hbA hS (vp_in_nI hi (by omega)) hd ?_
  rw [nI_clamp (by omega)]
  exact kk l p e s m below meth c C H locs ls hH hS hl
theorem qx_slen (hd : decode code pc = .ok (.arraylength, 1)) (kk : LW E b0 L0 xs k n (pc + 1) lo (.int (nI L0) :: r) h) : LW E b0 L0 xs k n pc lo (.ref b0 :: r) h := by
  intro l p e s m below meth c C H locs ls hH hS hl
  have hbA : ¬ xA E b0 := by
    show ¬ E.2 0 ≤ b0
    rw [C.2.2.2]
    exact Nat.not_le.mpr C.1.2.2.2.2.2.2.2.1
  exact va_slen C.1.1 C.1.2.1 C.1.2.2.2.2.2.2.1 C.1.2.2.2.2.2.2.2.1 hbA hS hd (kk l p e s m below meth c C H locs ls hH hS hl)
theorem qx_ret (hd : decode code pc = .ok (.ireturn, 1)) (hk : k ≤ 600000) (hn : n ≤ 7302250) : LW E b0 L0 xs k n pc lo [.int (nI 1)] h := by
  intro l p e s m below meth c C H locs ls hH hS hl
  refine va_forget (fun q hq => ?_) ?_
  · have := hS.2.2 q hq
    rw [← C.2.2.2]
    exact this
  · refine W.widen (k := 600000) (n := 7302250) hk hn ?_
    exact lw_ret C.1.1 C.1.2.1 C.1.2.2.1 C.1.2.2.2.2.2.2.2.2.1 hd
theorem lq_run {M2 : xM} {Q2 : Option Value → xHp → Prop} {st : List Value} {a : Array Value} {l : Launch} {p : Program} {e : Env} {s : State} {m : MethodId} {below : List Frame} {meth : Method} {c : Code} {H : Heap} {locs : List Loc} {ls : Array Slot} (C : lwX E p s m meth c b0 L0 xs) (hS : va_S (xA E) s.heap H locs) (hlv : xLv ls 4 lo)
    (hr : va_Run p l e room_1 s m #[Value.ref b0] below meth c H locs k n (xmc M2) (xms M2) (F0 m pc ls st) r (xPost E Q2 a) (xA E)) (kk : ∀ (v : Option Value) (h' : xHp), Q2 v h' → LW E b0 L0 xs (k + xmc M2) (n + xms M2) (pc + 3) lo (v.toList ++ r) h') :
    W p l e room_1 s m #[Value.ref b0] below meth c H locs k n (lw_Z below #[Value.ref b0] s) (F0 m pc ls st) := by
  intro T hT X
  obtain ⟨v, st₀, t, T', L, h0, X', hL, e1, e2, ⟨⟨rv, h', hv, hq, hh⟩, hz, hk⟩, st⟩ := hr T hT X
  cases hv
  rw [h0] at hz hk
  obtain ⟨t2, a1, b1⟩ := kk v h' hq l p e s m below meth c C T'.heap (locs ++ L) ls (by rw [e1]; exact hh) ⟨Nat.le_trans hS.1 (by rw [e1]; exact hz), fun q h1 h2 => by rw [e1, hk q (Nat.lt_of_lt_of_le h1 hS.1) h2]; exact hS.2.1 q h1 h2, fun q hq => by
      rcases List.mem_append.mp hq with h | h
      · exact hS.2.2 q h
      · exact hL q h⟩ hlv T' rfl X'
  exact ⟨t2, st t2 a1, b1⟩
theorem qx_callV {M2 : xM} {Q2 : Option Value → xHp → Prop} {idx np b ci N : Nat} {As fs st : List Value} {T : u_T} (hm : PMet E M2 (.ref b :: As) h Q2) (hw : xMW M2 np) (hi : Cond.instanceMethod (xY M2) ∈ GW) (hse : Cond.selects (xY M2).cls (xY M2) (xY M2) ∈ GW) (hl : Cond.methodLink RL idx (xY M2) ∈ GW) (hd : decode code pc = .ok (.invokevirtual idx, 3)) (hb : h b = some (.inr (ci, fs))) (hc : vwCl[ci]? = some ((xY M2).cls, T, N)) (hR : xd M2 + 1 ≤ 13 ∧ 8 + (xL M2 + 11) + 39 * xd M2 ≤ 510) (hn : As.length = np) (hst : st = As.reverse ++ .ref b :: r) (hcat : (r.map fun v => v.category).sum ≤ 8) (hf : k + xmc M2 ≤ 600000 ∧ n + xms M2 ≤ 7302250)
    (kk : ∀ (v : Option Value) (h' : xHp), Q2 v h' → LW E b0 L0 xs (k + xmc M2) (n + xms M2) (pc + 3) lo (v.toList ++ r) h') : LW E b0 L0 xs k n pc lo st h := by
  subst hst
  intro l p e s m below meth c C H locs ls hH hS hlv
  have hts := C.words
  have hrecv : ∃ cell : Cell, H[b]? = some cell ∧ cell.vm.isStatics = false ∧ s.vm.findClass (xY M2).cls = some cell.cls := va_recv (q := ((xY M2).cls, T, N)) C.2.1.1 (va_P_one (hH.1 b _ hb).1) hc (q0 := 0) rfl
  have hpre : ∀ U : State, U.heap = H → s.WarmedH U.vm → va_Pc (.ref b :: As) (xPre E h) (Value.ref b :: As).toArray U := fun U hU hW => ⟨rfl, xPre_of C.2.1 C.2.2.1 hS hH hU hW⟩
  exact lq_run (M2 := M2) C hS hlv (va_runV (bytes := xC M2) (maxL := xL M2) (ret := xR M2) ⟨C.1.1, C.1.2.1, C.1.2.2.2.1, C.1.2.2.2.2.1, hts⟩ (hm l) ⟨callB_of np hts (gw_cons hw.1) rfl rfl rfl (hts _ hw.2.1) (hts _ hl) hw.2.2 hR, hts _ hi, hts _ hse⟩ ⟨xPre_blind _, hrecv, hpre⟩ rfl hn hlv.1 rfl (lv_room hcat) hd hf) kk
theorem qx_callI {M2 : xM} {Q2 : Option Value → xHp → Prop} {idx np b : Nat} {As st : List Value} (hm : PMet E M2 (.ref b :: As) h Q2) (hw : xMW M2 np) (hi : Cond.instanceMethod (xY M2) ∈ GW) (hnm : (xY M2).name = "<init>") (hrt : xR M2 = none) (hl : Cond.methodLink RL idx (xY M2) ∈ GW) (hd : decode code pc = .ok (.invokespecial idx, 3)) (hR : xd M2 + 1 ≤ 13 ∧ 8 + (xL M2 + 11) + 39 * xd M2 ≤ 510) (hn : As.length = np) (hst : st = As.reverse ++ .ref b :: r) (hcat : (r.map fun v => v.category).sum ≤ 8) (hf : k + xmc M2 ≤ 600000 ∧ n + xms M2 ≤ 7302250)
    (kk : ∀ (v : Option Value) (h' : xHp), Q2 v h' → LW E b0 L0 xs (k + xmc M2) (n + xms M2) (pc + 3) lo (v.toList ++ r) h') : LW E b0 L0 xs k n pc lo st h := by
  subst hst
  intro l p e s m below meth c C H locs ls hH hS hlv
  have hts := C.words
  have hm := hm l
  have hw1 := hw.1
  rw [hrt] at hm hw1
  have hpre : ∀ U : State, U.heap = H → s.WarmedH U.vm → va_Pc (.ref b :: As) (xPre E h) (Value.ref b :: As).toArray U := fun U hU hW => ⟨rfl, xPre_of C.2.1 C.2.2.1 hS hH hU hW⟩
  exact lq_run (M2 := M2) C hS hlv (va_runI (bytes := xC M2) (maxL := xL M2) ⟨C.1.1, C.1.2.1, C.1.2.2.2.1, C.1.2.2.2.2.1, hts⟩ hm ⟨callB_of np hts (gw_cons hw1) rfl rfl rfl (hts _ hw.2.1) (hts _ hl) hw.2.2 hR, hnm, hts _ hi⟩ ⟨xPre_blind _, hpre⟩ rfl hn hlv.1 rfl (lv_room hcat) hd hf) kk
theorem qx_newP {ci N idx sz : Nat} {Cn : String} {T : u_T} {ty0 : Nat → FieldType} {fs : List Value} (hk : xCl ci Cn T N ty0) (hd : decode code pc = .ok (.new idx, 3)) (hl : Cond.classLink RL idx Cn ∈ GW) (hins : Cond.instantiable Cn N ∈ GW) (hini : Cond.initialized Cn ∈ GW) (hsz : xSz E h sz) (hfs : ∀ j, j < N → defaultValue (ty0 j) = vp_V fs j) (hf : k + 1 ≤ 600000 ∧ n + N ≤ 7302250) (kk : xSz E (putB h sz 1 (fun _ => some (.inr (ci, fs)))) (sz + 1) → LW E b0 L0 xs (k + 1) (n + N) (pc + 3) lo (.ref sz :: r) (putB h sz 1 (fun _ => some (.inr (ci, fs))))) : LW E b0 L0 xs k n pc lo r h := by
  have h3 := xSz_new (e := .inr (ci, fs)) hsz
  rw [putB_one] at h3
  have kk := kk h3
  rw [← putB_one] at kk
  intro l p e s m below meth c C H locs ls hH hS hlv
  obtain ⟨hc, hin, hty, hnm⟩ := hk
  have hts := C.words
  have hK := C.2.1.1
  have hKn := hK.1 ci _ hc
  have hz := xSz_of hsz hH
  subst hz
  refine W.newcK C.1.1 C.1.2.1 C.1.2.2.2.2.1 (hts _ hl) (hts _ hins) (hts _ hini) rfl hd hf.1 hf.2 hKn.2.1 rfl fun H1 kC hkC e1 z1 o1 => ?_
  exact kk l p e s m below meth c C H1 locs ls (xHold_new hH ⟨_, hc, (u_born ty0 hts hin hKn hkC e1 hty).to hfs⟩ o1 z1) ⟨Nat.le_trans hS.1 (by omega), fun x h1 h2 => (o1 x (Nat.lt_of_lt_of_le h1 hS.1)).trans (hS.2.1 x h1 h2), hS.2.2⟩ hlv
theorem qx_istn_3 {a0 a1 a2 a3 : Option Value} {tl : List (Option Value)} {x : Int32} (hd : decode code pc = .ok (.istore_n 3, 1)) (hok : xSt (a0 :: a1 :: a2 :: a3 :: tl) 3 = true) (kk : LW E b0 L0 xs k n (pc + 1) (a0 :: a1 :: a2 :: some (.int x) :: tl) r h) : LW E b0 L0 xs k n pc (a0 :: a1 :: a2 :: a3 :: tl) (.int x :: r) h := qx_istore_n hd (by decide) hok kk
theorem qx_astn_1 {a0 a1 : Option Value} {tl : List (Option Value)} {x : Nat} (hd : decode code pc = .ok (.astore_n 1, 1)) (hok : xSt (a0 :: a1 :: tl) 1 = true) (kk : LW E b0 L0 xs k n (pc + 1) (a0 :: some (.ref x) :: tl) r h) : LW E b0 L0 xs k n pc (a0 :: a1 :: tl) (.ref x :: r) h := qx_astore_n hd (by decide) hok kk
theorem qx_astn_2 {a0 a1 a2 : Option Value} {tl : List (Option Value)} {x : Nat} (hd : decode code pc = .ok (.astore_n 2, 1)) (hok : xSt (a0 :: a1 :: a2 :: tl) 2 = true) (kk : LW E b0 L0 xs k n (pc + 1) (a0 :: a1 :: some (.ref x) :: tl) r h) : LW E b0 L0 xs k n pc (a0 :: a1 :: a2 :: tl) (.ref x :: r) h := qx_astore_n hd (by decide) hok kk
theorem qx_inc_3 {a0 a1 a2 a3 : Option Value} {tl : List (Option Value)} {x v : Int32} {q : Int} (hd : decode code pc = .ok (.iinc 3 q, 3)) (ha : a3 = some (.int x)) (hv : x + Int32.ofInt q = v) (hok : xSt (a0 :: a1 :: a2 :: a3 :: tl) 3 = true) (kk : LW E b0 L0 xs k n (pc + 3) (a0 :: a1 :: a2 :: some (.int v) :: tl) r h) : LW E b0 L0 xs k n pc (a0 :: a1 :: a2 :: a3 :: tl) r h := qx_iinc hd (by subst ha; rfl) hv (by decide) hok kk
end LXR
set_option maxHeartbeats 4000000 in
set_option maxRecDepth 100000 in
theorem lw_env {p : Program} {s : State} {m : MethodId} {meth : Method} {c : Code} {b L : Nat} {xs : Nat → Int32} (C0 : lw_At p s m meth c b L xs) : ∃ E : xE, lwX E p s m meth c b L xs := by
  obtain ⟨hx, hb, hr, hml, hown, hts, hX, hbl, hlocks, hgv⟩ := id C0
  have hs := flat_of_before _ hgv
  have hg : ∀ w ∈ GW, w.before #[Value.ref b] s = true := fun w hw => hts w (List.mem_filter.mp hw).1
  have hA : ∀ a : Nat, a < s.heap.size → ¬ (fun q : Nat => s.heap.size ≤ q) a := fun a h1 h2 => Nat.not_le.mpr h1 h2
  have hT : (Cond.arrayOver (.object "RobbedOnce$Town")).before #[Value.ref b] s = true := hts _ (List.mem_append_right _ (List.mem_of_getElem? (i := 101) (by decide +kernel)))
  have hS : (Cond.arrayOver (.object "RobbedOnce$Sheet")).before #[Value.ref b] s = true := hts _ (List.mem_append_right _ (List.mem_of_getElem? (i := 146) (by decide +kernel)))
  obtain ⟨c0, iS0, hKn0⟩ := u_known (C := RX0) (T := TX0) (N := 1) (n := 1) hg xk_X0.2.1 (hg _ in_X0)
  obtain ⟨c1, iS1, hKn1⟩ := u_known (C := RX1) (T := TX1) (N := 3) (n := 3) hg xk_X1.2.1 (hg _ in_X1)
  obtain ⟨c2, iS2, hKn2⟩ := u_known (C := RX2) (T := TX2) (N := 3) (n := 3) hg xk_X2.2.1 (hg _ in_X2)
  obtain ⟨c3, iS3, hKn3⟩ := u_known (C := RX3) (T := TX3) (N := 3) (n := 3) hg xk_X3.2.1 (hg _ in_X3)
  obtain ⟨c4, iS4, hKn4⟩ := u_known (C := RX4) (T := TX4) (N := 13) (n := 13) hg xk_X4.2.1 (hg _ in_X4)
  obtain ⟨c5, iS5, hKn5⟩ := u_known (C := RX5) (T := TX5) (N := 9) (n := 9) hg xk_X5.2.1 (hg _ in_X5)
  obtain ⟨c6, iS6, hKn6⟩ := u_known (C := RX6) (T := TX6) (N := 13) (n := 13) hg xk_X6.2.1 (hg _ in_X6)
  obtain ⟨a0, k0, m0, u0, v0, w0⟩ := Cond.arrayClass_spec (args := #[Value.ref b]) (first := s) (o := none) (s := s) (idx := []) (hg _ ac_int)
  obtain ⟨a1, k1, m1, u1, v1, w1⟩ := Cond.arrayClass_spec (args := #[Value.ref b]) (first := s) (o := none) (s := s) (idx := []) (hg _ ac_long)
  obtain ⟨a2, k2, m2, u2, v2, w2⟩ := Cond.arrayClass_spec (args := #[Value.ref b]) (first := s) (o := none) (s := s) (idx := []) (hg _ ac_char)
  obtain ⟨m3, a3, k3, x3, _, v3, w3, u3⟩ := Cond.arrayOver_spec (args := #[Value.ref b]) (first := s) (o := none) (s := s) (idx := []) hT
  obtain ⟨m4, a4, k4, x4, _, v4, w4, u4⟩ := Cond.arrayOver_spec (args := #[Value.ref b]) (first := s) (o := none) (s := s) (idx := []) hS
  have h1 : ∀ i : Nat, i < 1 → i = 0 := fun i hi => by omega
  obtain ⟨adK, adV, hSt, hev⟩ := vk_Sof (args := #[Value.ref b]) (s := s) (N := 1) (tm := fun _ => Term.string "RobbedOnce$Tape" 51) (len := [5]) (byt := [[112, 102, 99, 100, 114]]) (A := fun q : Nat => s.heap.size ≤ q)
    (fun i hi => by rw [h1 i hi]; decide) (fun i hi => hs _ (by decide +kernel)) (fun i hi => hs _ (by decide +kernel)) (fun i hi => hs _ (by decide +kernel)) (fun i hi => by rw [h1 i hi]; exact hs _ (by decide +kernel))
    (fun i hi j hj => by
      rw [h1 i hi] at hj ⊢
      have hj : j < 5 := hj
      have hh : j = 0 ∨ j = 1 ∨ j = 2 ∨ j = 3 ∨ j = 4 := by omega
      rcases hh with h | h | h | h | h <;> subst h
      · exact hs _ (by decide +kernel)
      · exact hs _ (by decide +kernel)
      · exact hs _ (by decide +kernel)
      · exact hs _ (by decide +kernel)
      · exact hs _ (by decide +kernel))
    (fun i j hi hj hne => absurd ((h1 i hi).trans (h1 j hj).symm) hne) hA
  refine ⟨(((fun k => if k = 0 then c0 else if k = 1 then c1 else if k = 2 then c2 else if k = 3 then c3 else if k = 4 then c4 else if k = 5 then c5 else c6, fun k => if k = 0 then iS0 else if k = 1 then iS1 else if k = 2 then iS2 else if k = 3 then iS3 else if k = 4 then iS4 else if k = 5 then iS5 else iS6), fun k => if k = 0 then a0 else if k = 1 then a1 else if k = 2 then a2 else if k = 3 then a3 else a4), fun k => if k = 0 then s.heap.size else if k = 1 then adK 0 else adV 0), C0, ⟨⟨?_, ?_⟩, ?_⟩, ⟨?_, ?_, ?_, ?_, ?_⟩, rfl⟩
  · intro k q hq
    match k, hq with
    | 0, hq => cases hq; exact hKn0
    | 1, hq => cases hq; exact hKn1
    | 2, hq => cases hq; exact hKn2
    | 3, hq => cases hq; exact hKn3
    | 4, hq => cases hq; exact hKn4
    | 5, hq => cases hq; exact hKn5
    | 6, hq => cases hq; exact hKn6
    | k + 7, hq => simp [vwCl] at hq
  · intro k q hq
    match k, hq with
    | 0, hq => cases hq; exact ⟨fun n z => ⟨fun k h => (by cases h), k0, v0, m0, w0⟩, u0⟩
    | 1, hq => cases hq; exact ⟨fun n z => ⟨fun k h => (by cases h), k1, v1, m1, w1⟩, u1⟩
    | 2, hq => cases hq; exact ⟨fun n z => ⟨fun k h => (by cases h), k2, v2, m2, w2⟩, u2⟩
    | 3, hq => cases hq; exact ⟨fun n z => ⟨fun k h => (by cases h), k3, v3, m3, w3⟩, ⟨k3, m3, v3, w3, x3, u3⟩⟩
    | 4, hq => cases hq; exact ⟨fun n z => ⟨fun k h => (by cases h), k4, v4, m4, w4⟩, ⟨k4, m4, v4, w4, x4, u4⟩⟩
    | k + 5, hq => simp [xTys] at hq
  · intro w hw
    obtain ⟨q1, q2⟩ := List.mem_filter.mp hw
    have q3 := hts w q1
    cases w with
    | fieldLinkNest a i b n d h' => exact va_Nw.of rfl q3
    | methodLinkNest a i x h' => exact va_Nw.of rfl q3
    | _ => cases q2
  · exact ⟨fun i hi => by rw [h1 i hi]; exact hSt.1 0 (by decide), fun i j hi hj _ => (h1 i hi).trans (h1 j hj).symm⟩
  · exact vk_R.of (hts _ (List.mem_append_right _ (List.mem_of_getElem? (i := 301) (by decide +kernel)))) (hev 0 (by decide))
  · exact va_Zof (hts _ (List.mem_append_right _ (List.mem_of_getElem? (i := 315) (by decide +kernel)))) (hts _ (List.mem_append_right _ (List.mem_of_getElem? (i := 8) (by decide +kernel)))) (va_eqi (hs _ (by decide +kernel))) hA
  · exact va_AO.of hT
  · exact va_AO.of hS
