section PXR
variable {E : xE} {M : xM} {Q : Option Value → xHp → Prop} {k n pc : Nat} {lo : List (Option Value)} {r : List Value} {h : xHp}
theorem nI_lit (a : Nat) : (OfNat.ofNat a : Int32) = nI a := rfl
/-- locals as the kit has them -/
def xAsc (lo : List (Option Value)) : List (Nat × Value) := (List.range lo.length).filterMap (fun i => match lo[i]? with
  | some (some v) => some (i, v)
  | _ => none)
theorem xAsc_mem {lo : List (Option Value)} {i : Nat} {v : Value} : (i, v) ∈ xAsc lo ↔ lo[i]? = some (some v) := by
  unfold xAsc
  rw [List.mem_filterMap]
  constructor
  · rintro ⟨j, hj, he⟩
    split at he
    · rename_i w hw
      cases he
      exact hw
    · cases he
  · intro hv
    refine ⟨i, ?_, ?_⟩
    · rw [List.mem_range]
      exact (List.getElem?_eq_some_iff.mp hv).1
    · rw [hv]
theorem xLv_has {ls : Array Slot} {nL : Nat} {lo : List (Option Value)} (hl : xLv ls nL lo) : lv_has ls nL (xAsc lo) := ⟨hl.1, hl.2.1, fun q hq => hl.2.2 q.1 q.2 (xAsc_mem.mp hq)⟩
def xSt (lo : List (Option Value)) (i : Nat) : Bool := match lo[i - 1]? with
  | some (some v) => v.category == 1
  | _ => true
theorem xLv_set {ls' : Array Slot} {nL : Nat} {lo : List (Option Value)} {i : Nat} {v : Value} (hok : xSt lo i = true) (hl : lv_has ls' nL ((i, v) :: (xAsc lo).filter (fun q => !(q.1 == i) && !(q.1 + 1 == i && q.2.category == 2)))) : xLv ls' nL (lo.set i (some v)) := by
  refine ⟨hl.1, hl.2.1, fun j w hj => ?_⟩
  by_cases hji : j = i
  · subst hji
    have hlt : j < lo.length := by
      have := (List.getElem?_eq_some_iff.mp hj).1
      rwa [List.length_set] at this
    rw [List.getElem?_set_self hlt] at hj
    cases hj
    exact hl.2.2 (j, v) List.mem_cons_self
  · rw [List.getElem?_set_ne (Ne.symm hji)] at hj
    refine hl.2.2 (j, w) (List.mem_cons_of_mem _ (List.mem_filter.mpr ⟨xAsc_mem.mpr hj, ?_⟩))
    have h1 : (j == i) = false := by simp [hji]
    by_cases hj1 : j + 1 = i
    · subst hj1
      unfold xSt at hok
      rw [Nat.add_sub_cancel, hj] at hok
      have h2 : (w.category == 2) = false := by
        simp only [beq_iff_eq] at hok
        simp [hok]
      simp [h1, h2]
    · have h2 : (j + 1 == i) = false := by simp [hj1]
      simp [h1, h2]
theorem px_top {a b : Value} (he : a = b) (kk : PW E M Q k n pc lo (b :: r) h) : PW E M Q k n pc lo (a :: r) h := he ▸ kk
theorem px_topi {x y : Int32} (he : x = y) (kk : PW E M Q k n pc lo (.int y :: r) h) : PW E M Q k n pc lo (.int x :: r) h := he ▸ kk
theorem px_eq {lo2 : List (Option Value)} {r2 : List Value} {h2 : xHp} (e1 : lo = lo2) (e2 : r = r2) (e3 : h = h2) (kk : PW E M Q k n pc lo2 r2 h2) : PW E M Q k n pc lo r h := by
  subst e1; subst e2; subst e3; exact kk
theorem px_heap {h2 : xHp} (e3 : h = h2) (kk : PW E M Q k n pc lo r h2) : PW E M Q k n pc lo r h := by
  subst e3; exact kk
theorem px_mono {Q' : Option Value → xHp → Prop} (hq : ∀ r h, Q' r h → Q r h) (kk : PW E M Q' k n pc lo r h) : PW E M Q k n pc lo r h := by
  intro l p e s m args below meth c C H locs ls hH hS hl T hT X
  obtain ⟨t, a1, o, b1, b2, ⟨⟨rv, h', e1, e2, e3⟩, e4⟩, b4⟩ := kk l p e s m args below meth c C H locs ls hH hS hl T hT X
  exact ⟨t, a1, o, b1, b2, ⟨⟨rv, h', e1, hq _ _ e2, e3⟩, e4⟩, b4⟩
theorem px_iconst {q : Int} {v : Int32} (hd : decode (xC M) pc = .ok (.iconst q, 1)) (hv : Int32.ofInt q = v) (kk : PW E M Q k n (pc + 1) lo (.int v :: r) h) : PW E M Q k n pc lo (r) h := fun l p e s m args below meth c C H locs ls hH hS hl => lv_iconst C.1 C.2.1 hd hv (kk l p e s m args below meth c C H locs ls hH hS hl)
theorem px_bipush {q : Int} {v : Int32} (hd : decode (xC M) pc = .ok (.bipush q, 2)) (hv : (Int8.ofInt q).toInt32 = v) (kk : PW E M Q k n (pc + 2) lo (.int v :: r) h) : PW E M Q k n pc lo (r) h := fun l p e s m args below meth c C H locs ls hH hS hl => lv_bipush C.1 C.2.1 hd hv (kk l p e s m args below meth c C H locs ls hH hS hl)
theorem px_sipush {q : Int} {v : Int32} (hd : decode (xC M) pc = .ok (.sipush q, 3)) (hv : (Int16.ofInt q).toInt32 = v) (kk : PW E M Q k n (pc + 3) lo (.int v :: r) h) : PW E M Q k n pc lo (r) h := fun l p e s m args below meth c C H locs ls hH hS hl => lv_sipush C.1 C.2.1 hd hv (kk l p e s m args below meth c C H locs ls hH hS hl)
theorem px_lconst {q : Fin 2} {v : Int64} (hd : decode (xC M) pc = .ok (.lconst q, 1)) (hv : Int64.ofNat (q : Nat) = v) (kk : PW E M Q k n (pc + 1) lo (.long v :: r) h) : PW E M Q k n pc lo (r) h := fun l p e s m args below meth c C H locs ls hH hS hl => lv_lconst C.1 C.2.1 hd hv (kk l p e s m args below meth c C H locs ls hH hS hl)
theorem px_ldc {idx : Nat} {v : Int32} (hd : decode (xC M) pc = .ok (.ldc idx, 2)) (hc : Cond.constant (xY M).cls idx v ∈ GW) (kk : PW E M Q k n (pc + 2) lo (.int v :: r) h) : PW E M Q k n pc lo (r) h := fun l p e s m args below meth c C H locs ls hH hS hl => lv_ldc C.1 C.2.1 C.2.2.2.2.2.1 (C.2.2.2.2.2.2.1 _ hc) hd (kk l p e s m args below meth c C H locs ls hH hS hl)
theorem px_ldcw {idx : Nat} {v : Int32} (hd : decode (xC M) pc = .ok (.ldc_w idx, 3)) (hc : Cond.constant (xY M).cls idx v ∈ GW) (kk : PW E M Q k n (pc + 3) lo (.int v :: r) h) : PW E M Q k n pc lo (r) h := fun l p e s m args below meth c C H locs ls hH hS hl => lv_ldcw C.1 C.2.1 C.2.2.2.2.2.1 (C.2.2.2.2.2.2.1 _ hc) hd (kk l p e s m args below meth c C H locs ls hH hS hl)
theorem px_ldc2 {idx : Nat} {v : Int64} (hd : decode (xC M) pc = .ok (.ldc2_w idx, 3)) (hc : Cond.constantLong (xY M).cls idx v ∈ GW) (kk : PW E M Q k n (pc + 3) lo (.long v :: r) h) : PW E M Q k n pc lo (r) h := fun l p e s m args below meth c C H locs ls hH hS hl => lv_ldc2 C.1 C.2.1 C.2.2.2.2.2.1 (C.2.2.2.2.2.2.1 _ hc) hd (kk l p e s m args below meth c C H locs ls hH hS hl)
theorem px_iload_n {j : Fin 4} {x : Int32} (hd : decode (xC M) pc = .ok (.iload_n j, 1)) (hx : lo[(j : Nat)]? = some (some (.int x))) (kk : PW E M Q k n (pc + 1) lo (.int x :: r) h) : PW E M Q k n pc lo (r) h := fun l p e s m args below meth c C H locs ls hH hS hl => lv_iload_n C.1 C.2.1 hd rfl (hl.2.2 _ _ hx) (kk l p e s m args below meth c C H locs ls hH hS hl)
theorem px_iload {j : Nat} {x : Int32} (hd : decode (xC M) pc = .ok (.iload j, 2)) (hx : lo[j]? = some (some (.int x))) (kk : PW E M Q k n (pc + 2) lo (.int x :: r) h) : PW E M Q k n pc lo (r) h := fun l p e s m args below meth c C H locs ls hH hS hl => lv_iload C.1 C.2.1 hd (hl.2.2 _ _ hx) (kk l p e s m args below meth c C H locs ls hH hS hl)
theorem px_aload_n {j : Fin 4} {x : Nat} (hd : decode (xC M) pc = .ok (.aload_n j, 1)) (hx : lo[(j : Nat)]? = some (some (.ref x))) (kk : PW E M Q k n (pc + 1) lo (.ref x :: r) h) : PW E M Q k n pc lo (r) h := fun l p e s m args below meth c C H locs ls hH hS hl => lv_aload_n C.1 C.2.1 hd rfl (hl.2.2 _ _ hx) (kk l p e s m args below meth c C H locs ls hH hS hl)
theorem px_aload {j : Nat} {x : Nat} (hd : decode (xC M) pc = .ok (.aload j, 2)) (hx : lo[j]? = some (some (.ref x))) (kk : PW E M Q k n (pc + 2) lo (.ref x :: r) h) : PW E M Q k n pc lo (r) h := fun l p e s m args below meth c C H locs ls hH hS hl => lv_aload C.1 C.2.1 hd (hl.2.2 _ _ hx) (kk l p e s m args below meth c C H locs ls hH hS hl)
theorem px_lload_n {j : Fin 4} {x : Int64} (hd : decode (xC M) pc = .ok (.lload_n j, 1)) (hx : lo[(j : Nat)]? = some (some (.long x))) (kk : PW E M Q k n (pc + 1) lo (.long x :: r) h) : PW E M Q k n pc lo (r) h := fun l p e s m args below meth c C H locs ls hH hS hl => lv_lload_n C.1 C.2.1 hd rfl (hl.2.2 _ _ hx) (kk l p e s m args below meth c C H locs ls hH hS hl)
theorem px_lload {j : Nat} {x : Int64} (hd : decode (xC M) pc = .ok (.lload j, 2)) (hx : lo[j]? = some (some (.long x))) (kk : PW E M Q k n (pc + 2) lo (.long x :: r) h) : PW E M Q k n pc lo (r) h := fun l p e s m args below meth c C H locs ls hH hS hl => lv_lload C.1 C.2.1 hd (hl.2.2 _ _ hx) (kk l p e s m args below meth c C H locs ls hH hS hl)
theorem px_istore_n {j : Fin 4} {x : Int32} (hd : decode (xC M) pc = .ok (.istore_n j, 1)) (hn : (j : Nat) < xL M) (hok : xSt lo (j : Nat) = true) (kk : PW E M Q k n (pc + 1) (lo.set (j : Nat) (some (.int x))) r h) : PW E M Q k n pc lo (.int x :: r) h := fun l p e s m args below meth c C H locs ls hH hS hl => lv_istore_n C.1 C.2.1 hd rfl (xLv_has hl) hn rfl (fun ls2 h2 => kk l p e s m args below meth c C H locs ls2 hH hS (xLv_set hok h2))
theorem px_istore {j : Nat} {x : Int32} (hd : decode (xC M) pc = .ok (.istore j, 2)) (hn : (j : Nat) < xL M) (hok : xSt lo (j : Nat) = true) (kk : PW E M Q k n (pc + 2) (lo.set (j : Nat) (some (.int x))) r h) : PW E M Q k n pc lo (.int x :: r) h := fun l p e s m args below meth c C H locs ls hH hS hl => lv_istore C.1 C.2.1 hd (xLv_has hl) hn rfl (fun ls2 h2 => kk l p e s m args below meth c C H locs ls2 hH hS (xLv_set hok h2))
theorem px_astore_n {j : Fin 4} {x : Nat} (hd : decode (xC M) pc = .ok (.astore_n j, 1)) (hn : (j : Nat) < xL M) (hok : xSt lo (j : Nat) = true) (kk : PW E M Q k n (pc + 1) (lo.set (j : Nat) (some (.ref x))) r h) : PW E M Q k n pc lo (.ref x :: r) h := fun l p e s m args below meth c C H locs ls hH hS hl => lv_astore_n C.1 C.2.1 hd rfl (xLv_has hl) hn rfl (fun ls2 h2 => kk l p e s m args below meth c C H locs ls2 hH hS (xLv_set hok h2))
theorem px_astore {j : Nat} {x : Nat} (hd : decode (xC M) pc = .ok (.astore j, 2)) (hn : (j : Nat) < xL M) (hok : xSt lo (j : Nat) = true) (kk : PW E M Q k n (pc + 2) (lo.set (j : Nat) (some (.ref x))) r h) : PW E M Q k n pc lo (.ref x :: r) h := fun l p e s m args below meth c C H locs ls hH hS hl => lv_astore C.1 C.2.1 hd (xLv_has hl) hn rfl (fun ls2 h2 => kk l p e s m args below meth c C H locs ls2 hH hS (xLv_set hok h2))
theorem px_iinc {j : Nat} {q : Int} {x v : Int32} (hd : decode (xC M) pc = .ok (.iinc j q, 3)) (hx : lo[j]? = some (some (.int x))) (hv : x + Int32.ofInt q = v) (hn : j < xL M) (hok : xSt lo j = true) (kk : PW E M Q k n (pc + 3) (lo.set j (some (.int v))) r h) : PW E M Q k n pc lo r h := by
  intro l p e s m args below meth c C H locs ls hH hS hl
  obtain ⟨i, hi⟩ := List.getElem?_of_mem (xAsc_mem.mpr hx)
  exact lv_iinc (k := i) C.1 C.2.1 hd (xLv_has hl) hi hv hn rfl (fun ls2 h2 => kk l p e s m args below meth c C H locs ls2 hH hS (xLv_set hok h2))
theorem px_iadd {x y : Int32} (hd : decode (xC M) pc = .ok (.iadd, 1))  (kk : PW E M Q k n (pc + 1) lo (.int (x + y) :: r) h) : PW E M Q k n pc lo (.int y :: .int x :: r) h := fun l p e s m args below meth c C H locs ls hH hS hl => lv_iadd C.1 C.2.1 hd (kk l p e s m args below meth c C H locs ls hH hS hl)
theorem px_isub {x y : Int32} (hd : decode (xC M) pc = .ok (.isub, 1))  (kk : PW E M Q k n (pc + 1) lo (.int (x - y) :: r) h) : PW E M Q k n pc lo (.int y :: .int x :: r) h := fun l p e s m args below meth c C H locs ls hH hS hl => lv_isub C.1 C.2.1 hd (kk l p e s m args below meth c C H locs ls hH hS hl)
theorem px_imul {x y : Int32} (hd : decode (xC M) pc = .ok (.imul, 1))  (kk : PW E M Q k n (pc + 1) lo (.int (x * y) :: r) h) : PW E M Q k n pc lo (.int y :: .int x :: r) h := fun l p e s m args below meth c C H locs ls hH hS hl => lv_imul C.1 C.2.1 hd (kk l p e s m args below meth c C H locs ls hH hS hl)
theorem px_iand {x y : Int32} (hd : decode (xC M) pc = .ok (.iand, 1))  (kk : PW E M Q k n (pc + 1) lo (.int (x &&& y) :: r) h) : PW E M Q k n pc lo (.int y :: .int x :: r) h := fun l p e s m args below meth c C H locs ls hH hS hl => lv_iand C.1 C.2.1 hd (kk l p e s m args below meth c C H locs ls hH hS hl)
theorem px_ior {x y : Int32} (hd : decode (xC M) pc = .ok (.ior, 1))  (kk : PW E M Q k n (pc + 1) lo (.int (x ||| y) :: r) h) : PW E M Q k n pc lo (.int y :: .int x :: r) h := fun l p e s m args below meth c C H locs ls hH hS hl => lv_ior C.1 C.2.1 hd (kk l p e s m args below meth c C H locs ls hH hS hl)
theorem px_ixor {x y : Int32} (hd : decode (xC M) pc = .ok (.ixor, 1))  (kk : PW E M Q k n (pc + 1) lo (.int (x ^^^ y) :: r) h) : PW E M Q k n pc lo (.int y :: .int x :: r) h := fun l p e s m args below meth c C H locs ls hH hS hl => lv_ixor C.1 C.2.1 hd (kk l p e s m args below meth c C H locs ls hH hS hl)
theorem px_ishl {x y : Int32} (hd : decode (xC M) pc = .ok (.ishl, 1))  (kk : PW E M Q k n (pc + 1) lo (.int (x <<< (y &&& 31)) :: r) h) : PW E M Q k n pc lo (.int y :: .int x :: r) h := fun l p e s m args below meth c C H locs ls hH hS hl => lv_ishl C.1 C.2.1 hd (kk l p e s m args below meth c C H locs ls hH hS hl)
theorem px_ishr {x y : Int32} (hd : decode (xC M) pc = .ok (.ishr, 1))  (kk : PW E M Q k n (pc + 1) lo (.int (x >>> (y &&& 31)) :: r) h) : PW E M Q k n pc lo (.int y :: .int x :: r) h := fun l p e s m args below meth c C H locs ls hH hS hl => lv_ishr C.1 C.2.1 hd (kk l p e s m args below meth c C H locs ls hH hS hl)
theorem px_idiv {x y : Int32} (hd : decode (xC M) pc = .ok (.idiv, 1)) (hne : ¬ y = 0) (kk : PW E M Q k n (pc + 1) lo (.int (x / y) :: r) h) : PW E M Q k n pc lo (.int y :: .int x :: r) h := fun l p e s m args below meth c C H locs ls hH hS hl => lv_idiv C.1 C.2.1 hd hne (kk l p e s m args below meth c C H locs ls hH hS hl)
theorem px_irem {x y : Int32} (hd : decode (xC M) pc = .ok (.irem, 1)) (hne : ¬ y = 0) (kk : PW E M Q k n (pc + 1) lo (.int (x - x / y * y) :: r) h) : PW E M Q k n pc lo (.int y :: .int x :: r) h := fun l p e s m args below meth c C H locs ls hH hS hl => lv_irem C.1 C.2.1 hd hne (kk l p e s m args below meth c C H locs ls hH hS hl)
theorem px_iushr {x y : Int32} (hd : decode (xC M) pc = .ok (.iushr, 1))  (kk : PW E M Q k n (pc + 1) lo (.int (x.toUInt32 >>> (y.toUInt32 &&& Int32.toUInt32 31)).toInt32 :: r) h) : PW E M Q k n pc lo (.int y :: .int x :: r) h := fun l p e s m args below meth c C H locs ls hH hS hl => lv_iushr C.1 C.2.1 hd rfl (kk l p e s m args below meth c C H locs ls hH hS hl)
theorem px_ladd {x y : Int64} (hd : decode (xC M) pc = .ok (.ladd, 1))  (kk : PW E M Q k n (pc + 1) lo (.long (x + y) :: r) h) : PW E M Q k n pc lo (.long y :: .long x :: r) h := fun l p e s m args below meth c C H locs ls hH hS hl => lv_ladd C.1 C.2.1 hd (kk l p e s m args below meth c C H locs ls hH hS hl)
theorem px_lmul {x y : Int64} (hd : decode (xC M) pc = .ok (.lmul, 1))  (kk : PW E M Q k n (pc + 1) lo (.long (x * y) :: r) h) : PW E M Q k n pc lo (.long y :: .long x :: r) h := fun l p e s m args below meth c C H locs ls hH hS hl => lv_lmul C.1 C.2.1 hd (kk l p e s m args below meth c C H locs ls hH hS hl)
theorem px_land {x y : Int64} (hd : decode (xC M) pc = .ok (.land, 1))  (kk : PW E M Q k n (pc + 1) lo (.long (x &&& y) :: r) h) : PW E M Q k n pc lo (.long y :: .long x :: r) h := fun l p e s m args below meth c C H locs ls hH hS hl => lv_land C.1 C.2.1 hd (kk l p e s m args below meth c C H locs ls hH hS hl)
theorem px_lor {x y : Int64} (hd : decode (xC M) pc = .ok (.lor, 1))  (kk : PW E M Q k n (pc + 1) lo (.long (x ||| y) :: r) h) : PW E M Q k n pc lo (.long y :: .long x :: r) h := fun l p e s m args below meth c C H locs ls hH hS hl => lv_lor C.1 C.2.1 hd (kk l p e s m args below meth c C H locs ls hH hS hl)
theorem px_lrem {x y : Int64} (hd : decode (xC M) pc = .ok (.lrem, 1)) (hne : ¬ y = 0) (kk : PW E M Q k n (pc + 1) lo (.long (x - x / y * y) :: r) h) : PW E M Q k n pc lo (.long y :: .long x :: r) h := fun l p e s m args below meth c C H locs ls hH hS hl => lv_lrem C.1 C.2.1 hd hne (kk l p e s m args below meth c C H locs ls hH hS hl)
theorem px_lshl {x : Int64} {y : Int32} (hd : decode (xC M) pc = .ok (.lshl, 1))  (kk : PW E M Q k n (pc + 1) lo (.long (x <<< (y.toInt64 &&& 63)) :: r) h) : PW E M Q k n pc lo (.int y :: .long x :: r) h := fun l p e s m args below meth c C H locs ls hH hS hl => lv_lshl C.1 C.2.1 hd rfl (kk l p e s m args below meth c C H locs ls hH hS hl)
theorem px_lcmp {x y : Int64} (hd : decode (xC M) pc = .ok (.lcmp, 1))  (kk : PW E M Q k n (pc + 1) lo (.int (lg_cmp x y) :: r) h) : PW E M Q k n pc lo (.long y :: .long x :: r) h := fun l p e s m args below meth c C H locs ls hH hS hl => W.lcmp C.1 C.2.1 hd (kk l p e s m args below meth c C H locs ls hH hS hl)
theorem px_i2l {x : Int32} (hd : decode (xC M) pc = .ok (.i2l, 1))  (kk : PW E M Q k n (pc + 1) lo (.long x.toInt64 :: r) h) : PW E M Q k n pc lo (.int x :: r) h := fun l p e s m args below meth c C H locs ls hH hS hl => lv_i2l C.1 C.2.1 hd rfl (kk l p e s m args below meth c C H locs ls hH hS hl)
theorem px_l2i {x : Int64} (hd : decode (xC M) pc = .ok (.l2i, 1))  (kk : PW E M Q k n (pc + 1) lo (.int x.toInt32 :: r) h) : PW E M Q k n pc lo (.long x :: r) h := fun l p e s m args below meth c C H locs ls hH hS hl => lv_l2i C.1 C.2.1 hd rfl (kk l p e s m args below meth c C H locs ls hH hS hl)
theorem px_i2b {x : Int32} (hd : decode (xC M) pc = .ok (.i2b, 1))  (kk : PW E M Q k n (pc + 1) lo (.int x.toInt8.toInt32 :: r) h) : PW E M Q k n pc lo (.int x :: r) h := fun l p e s m args below meth c C H locs ls hH hS hl => lv_i2b C.1 C.2.1 hd rfl (kk l p e s m args below meth c C H locs ls hH hS hl)
theorem px_i2s {x : Int32} (hd : decode (xC M) pc = .ok (.i2s, 1))  (kk : PW E M Q k n (pc + 1) lo (.int x.toInt16.toInt32 :: r) h) : PW E M Q k n pc lo (.int x :: r) h := fun l p e s m args below meth c C H locs ls hH hS hl => lv_i2s C.1 C.2.1 hd rfl (kk l p e s m args below meth c C H locs ls hH hS hl)
theorem px_i2c {x : Int32} (hd : decode (xC M) pc = .ok (.i2c, 1))  (kk : PW E M Q k n (pc + 1) lo (.int (x.toUInt32 % 65536).toInt32 :: r) h) : PW E M Q k n pc lo (.int x :: r) h := fun l p e s m args below meth c C H locs ls hH hS hl => lv_i2c C.1 C.2.1 hd rfl (kk l p e s m args below meth c C H locs ls hH hS hl)
theorem px_dup {a : Value} (hd : decode (xC M) pc = .ok (.dup, 1)) (hc : a.category = 1) (kk : PW E M Q k n (pc + 1) lo (a :: a :: r) h) : PW E M Q k n pc lo (a :: r) h := fun l p e s m args below meth c C H locs ls hH hS hl => lv_dup C.1 C.2.1 hd hc (kk l p e s m args below meth c C H locs ls hH hS hl)
theorem px_pop {a : Value} (hd : decode (xC M) pc = .ok (.pop, 1)) (hc : a.category = 1) (kk : PW E M Q k n (pc + 1) lo (r) h) : PW E M Q k n pc lo (a :: r) h := fun l p e s m args below meth c C H locs ls hH hS hl => lv_pop C.1 C.2.1 hd hc (kk l p e s m args below meth c C H locs ls hH hS hl)
theorem px_dup2 {a b : Value} (hd : decode (xC M) pc = .ok (.dup2, 1)) (hc : a.category = 1) (hc2 : b.category = 1) (kk : PW E M Q k n (pc + 1) lo (a :: b :: a :: b :: r) h) : PW E M Q k n pc lo (a :: b :: r) h := fun l p e s m args below meth c C H locs ls hH hS hl => lv_dup2_11 C.1 C.2.1 hd hc hc2 (kk l p e s m args below meth c C H locs ls hH hS hl)
theorem px_if_eq {x : Int32} {off : Int} (tgt : Nat) (hd : decode (xC M) pc = .ok (.ifCond .eq off, 3)) (ht : (pc : Int) + off = (tgt : Int)) (kt : x = 0 → PW E M Q k n tgt lo r h) (kf : ¬ x = 0 → PW E M Q k n (pc + 3) lo r h) : PW E M Q k n pc lo (.int x :: r) h := fun l p e s m args below meth c C H locs ls hH hS hl => lv_if_eq C.1 C.2.1 hd ht (fun z => kt z l p e s m args below meth c C H locs ls hH hS hl) (fun z => kf z l p e s m args below meth c C H locs ls hH hS hl)
theorem px_if_ne {x : Int32} {off : Int} (tgt : Nat) (hd : decode (xC M) pc = .ok (.ifCond .ne off, 3)) (ht : (pc : Int) + off = (tgt : Int)) (kt : ¬ x = 0 → PW E M Q k n tgt lo r h) (kf : x = 0 → PW E M Q k n (pc + 3) lo r h) : PW E M Q k n pc lo (.int x :: r) h := fun l p e s m args below meth c C H locs ls hH hS hl => lv_if_ne C.1 C.2.1 hd ht (fun z => kt z l p e s m args below meth c C H locs ls hH hS hl) (fun z => kf z l p e s m args below meth c C H locs ls hH hS hl)
theorem px_if_lt {x : Int32} {off : Int} (tgt : Nat) (hd : decode (xC M) pc = .ok (.ifCond .lt off, 3)) (ht : (pc : Int) + off = (tgt : Int)) (kt : x < 0 → PW E M Q k n tgt lo r h) (kf : ¬ x < 0 → PW E M Q k n (pc + 3) lo r h) : PW E M Q k n pc lo (.int x :: r) h := fun l p e s m args below meth c C H locs ls hH hS hl => lv_if_lt C.1 C.2.1 hd ht (fun z => kt z l p e s m args below meth c C H locs ls hH hS hl) (fun z => kf z l p e s m args below meth c C H locs ls hH hS hl)
theorem px_if_ge {x : Int32} {off : Int} (tgt : Nat) (hd : decode (xC M) pc = .ok (.ifCond .ge off, 3)) (ht : (pc : Int) + off = (tgt : Int)) (kt : 0 ≤ x → PW E M Q k n tgt lo r h) (kf : ¬ 0 ≤ x → PW E M Q k n (pc + 3) lo r h) : PW E M Q k n pc lo (.int x :: r) h := fun l p e s m args below meth c C H locs ls hH hS hl => lv_if_ge C.1 C.2.1 hd ht (fun z => kt z l p e s m args below meth c C H locs ls hH hS hl) (fun z => kf z l p e s m args below meth c C H locs ls hH hS hl)
theorem px_if_gt {x : Int32} {off : Int} (tgt : Nat) (hd : decode (xC M) pc = .ok (.ifCond .gt off, 3)) (ht : (pc : Int) + off = (tgt : Int)) (kt : 0 < x → PW E M Q k n tgt lo r h) (kf : ¬ 0 < x → PW E M Q k n (pc + 3) lo r h) : PW E M Q k n pc lo (.int x :: r) h := fun l p e s m args below meth c C H locs ls hH hS hl => lv_if_gt C.1 C.2.1 hd ht (fun z => kt z l p e s m args below meth c C H locs ls hH hS hl) (fun z => kf z l p e s m args below meth c C H locs ls hH hS hl)
theorem px_if_le {x : Int32} {off : Int} (tgt : Nat) (hd : decode (xC M) pc = .ok (.ifCond .le off, 3)) (ht : (pc : Int) + off = (tgt : Int)) (kt : x ≤ 0 → PW E M Q k n tgt lo r h) (kf : ¬ x ≤ 0 → PW E M Q k n (pc + 3) lo r h) : PW E M Q k n pc lo (.int x :: r) h := fun l p e s m args below meth c C H locs ls hH hS hl => lv_if_le C.1 C.2.1 hd ht (fun z => kt z l p e s m args below meth c C H locs ls hH hS hl) (fun z => kf z l p e s m args below meth c C H locs ls hH hS hl)
theorem px_icmp_eq {x y : Int32} {off : Int} (tgt : Nat) (hd : decode (xC M) pc = .ok (.if_icmp .eq off, 3)) (ht : (pc : Int) + off = (tgt : Int)) (kt : x = y → PW E M Q k n tgt lo r h) (kf : ¬ x = y → PW E M Q k n (pc + 3) lo r h) : PW E M Q k n pc lo (.int y :: .int x :: r) h := fun l p e s m args below meth c C H locs ls hH hS hl => lv_icmp_eq C.1 C.2.1 hd ht (fun z => kt z l p e s m args below meth c C H locs ls hH hS hl) (fun z => kf z l p e s m args below meth c C H locs ls hH hS hl)
theorem px_icmp_ne {x y : Int32} {off : Int} (tgt : Nat) (hd : decode (xC M) pc = .ok (.if_icmp .ne off, 3)) (ht : (pc : Int) + off = (tgt : Int)) (kt : ¬ x = y → PW E M Q k n tgt lo r h) (kf : x = y → PW E M Q k n (pc + 3) lo r h) : PW E M Q k n pc lo (.int y :: .int x :: r) h := fun l p e s m args below meth c C H locs ls hH hS hl => lv_icmp_ne C.1 C.2.1 hd ht (fun z => kt z l p e s m args below meth c C H locs ls hH hS hl) (fun z => kf z l p e s m args below meth c C H locs ls hH hS hl)
theorem px_icmp_lt {x y : Int32} {off : Int} (tgt : Nat) (hd : decode (xC M) pc = .ok (.if_icmp .lt off, 3)) (ht : (pc : Int) + off = (tgt : Int)) (kt : x < y → PW E M Q k n tgt lo r h) (kf : ¬ x < y → PW E M Q k n (pc + 3) lo r h) : PW E M Q k n pc lo (.int y :: .int x :: r) h := fun l p e s m args below meth c C H locs ls hH hS hl => lv_icmp_lt C.1 C.2.1 hd ht (fun z => kt z l p e s m args below meth c C H locs ls hH hS hl) (fun z => kf z l p e s m args below meth c C H locs ls hH hS hl)
theorem px_icmp_ge {x y : Int32} {off : Int} (tgt : Nat) (hd : decode (xC M) pc = .ok (.if_icmp .ge off, 3)) (ht : (pc : Int) + off = (tgt : Int)) (kt : y ≤ x → PW E M Q k n tgt lo r h) (kf : ¬ y ≤ x → PW E M Q k n (pc + 3) lo r h) : PW E M Q k n pc lo (.int y :: .int x :: r) h := fun l p e s m args below meth c C H locs ls hH hS hl => lv_icmp_ge C.1 C.2.1 hd ht (fun z => kt z l p e s m args below meth c C H locs ls hH hS hl) (fun z => kf z l p e s m args below meth c C H locs ls hH hS hl)
theorem px_icmp_gt {x y : Int32} {off : Int} (tgt : Nat) (hd : decode (xC M) pc = .ok (.if_icmp .gt off, 3)) (ht : (pc : Int) + off = (tgt : Int)) (kt : y < x → PW E M Q k n tgt lo r h) (kf : ¬ y < x → PW E M Q k n (pc + 3) lo r h) : PW E M Q k n pc lo (.int y :: .int x :: r) h := fun l p e s m args below meth c C H locs ls hH hS hl => lv_icmp_gt C.1 C.2.1 hd ht (fun z => kt z l p e s m args below meth c C H locs ls hH hS hl) (fun z => kf z l p e s m args below meth c C H locs ls hH hS hl)
theorem px_icmp_le {x y : Int32} {off : Int} (tgt : Nat) (hd : decode (xC M) pc = .ok (.if_icmp .le off, 3)) (ht : (pc : Int) + off = (tgt : Int)) (kt : x ≤ y → PW E M Q k n tgt lo r h) (kf : ¬ x ≤ y → PW E M Q k n (pc + 3) lo r h) : PW E M Q k n pc lo (.int y :: .int x :: r) h := fun l p e s m args below meth c C H locs ls hH hS hl => lv_icmp_le C.1 C.2.1 hd ht (fun z => kt z l p e s m args below meth c C H locs ls hH hS hl) (fun z => kf z l p e s m args below meth c C H locs ls hH hS hl)
theorem px_goto {off : Int} (tgt : Nat) (hd : decode (xC M) pc = .ok (.goto off, 3)) (ht : (pc : Int) + off = (tgt : Int)) (kk : PW E M Q k n tgt lo r h) : PW E M Q k n pc lo r h := fun l p e s m args below meth c C H locs ls hH hS hl => lv_goto C.1 C.2.1 hd ht (kk l p e s m args below meth c C H locs ls hH hS hl)
theorem px_tabIn {dflt lw hi : Int} {offs : Array Int} {len : Nat} {x : Int32} {off : Int} (tgt : Nat) (hd : decode (xC M) pc = .ok (.tableswitch dflt lw hi offs, len)) (h1 : ¬ x.toInt < lw) (h2 : ¬ hi < x.toInt) (ho : offs[(x.toInt - lw).toNat]? = some off) (ht : (pc : Int) + off = (tgt : Int)) (kk : PW E M Q k n tgt lo r h) : PW E M Q k n pc lo (.int x :: r) h := fun l p e s m args below meth c C H locs ls hH hS hl => lv_tableIn C.1 C.2.1 hd h1 h2 ho ht (kk l p e s m args below meth c C H locs ls hH hS hl)
theorem px_tabOut {dflt lw hi : Int} {offs : Array Int} {len : Nat} {x : Int32} (tgt : Nat) (hd : decode (xC M) pc = .ok (.tableswitch dflt lw hi offs, len)) (hh : x.toInt < lw ∨ hi < x.toInt) (ht : (pc : Int) + dflt = (tgt : Int)) (kk : PW E M Q k n tgt lo r h) : PW E M Q k n pc lo (.int x :: r) h := fun l p e s m args below meth c C H locs ls hH hS hl => lv_tableOut C.1 C.2.1 hd hh ht (kk l p e s m args below meth c C H locs ls hH hS hl)
theorem px_iret {v : Int32} (hd : decode (xC M) pc = .ok (.ireturn, 1)) (hr : xR M = some .int) (hk : k = xmc M) (hn : n = xms M) (hq : Q (some (.int v)) h) : PW E M Q k n pc lo [.int v] h := by
  subst hk; subst hn
  intro l p e s m args below meth c C H locs ls hH hS hl
  have hlocks := C.2.2.2.2.1
  exact W.iret C.1 C.2.1 (C.2.2.2.1.trans hr) (fun t ht hW => ⟨⟨_, h, rfl, hq, by rw [ht]; exact hH⟩, hS.F ht⟩) hS.2.2 hd
theorem px_zret {v : Int32} {ty : FieldType} (hd : decode (xC M) pc = .ok (.ireturn, 1)) (hr : xR M = some ty) (hnar : narrow ty (.int v) = .int v) (hk : k = xmc M) (hn : n = xms M) (hq : Q (some (.int v)) h) : PW E M Q k n pc lo [.int v] h := by
  subst hk; subst hn
  intro l p e s m args below meth c C H locs ls hH hS hl
  have hlocks := C.2.2.2.2.1
  exact W.zret C.1 C.2.1 (C.2.2.2.1.trans hr) hnar (fun t ht hW => ⟨⟨_, h, rfl, hq, by rw [ht]; exact hH⟩, hS.F ht⟩) hS.2.2 hd
theorem px_vret (hd : decode (xC M) pc = .ok (.return_, 1)) (hr : xR M = none) (hk : k = xmc M) (hn : n = xms M) (hq : Q none h) : PW E M Q k n pc lo [] h := by
  subst hk; subst hn
  intro l p e s m args below meth c C H locs ls hH hS hl
  have hlocks := C.2.2.2.2.1
  exact W.vret C.1 C.2.1 (C.2.2.2.1.trans hr) (fun t ht hW => ⟨⟨_, h, rfl, hq, by rw [ht]; exact hH⟩, hS.F ht⟩) hS.2.2 hd
theorem px_aret {a : Nat} {nm : String} (hd : decode (xC M) pc = .ok (.areturn, 1)) (hr : xR M = some (.object nm)) (hk : k = xmc M) (hn : n = xms M) (hq : Q (some (.ref a)) h) : PW E M Q k n pc lo [.ref a] h := by
  subst hk; subst hn
  intro l p e s m args below meth c C H locs ls hH hS hl
  have hlocks := C.2.2.2.2.1
  exact W.aret C.1 C.2.1 (C.2.2.2.1.trans hr) (Or.inl ⟨_, rfl⟩) (Or.inr ⟨_, rfl⟩) (fun t ht hW => ⟨⟨_, h, rfl, hq, by rw [ht]; exact hH⟩, hS.F ht⟩) hS.2.2 hd
end PXR
