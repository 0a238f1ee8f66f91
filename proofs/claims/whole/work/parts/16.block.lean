section PXCP
variable {E : xE} {M : xM} {Q : Option Value → xHp → Prop} {pc : Nat} {lo : List (Option Value)} {r : List Value} {h : xHp}
theorem nI_nneg {a : Nat} (h : a < 2 ^ 31) : (nI a).toInt = ((nI a).toNatClampNeg : Int) := by rw [nI_toInt h, nI_clamp h]
theorem px_copyi {idx a0 a n0 n1 sp dp cnt : Nat} {f g : Nat → Int32} (hd : decode (xC M) pc = .ok (.invokestatic idx, 3)) (hl : Cond.methodLink (xY M).cls idx arraycopyName ∈ GW) (ha0 : h a0 = some (.inl (E.1.2 0, n0, .inl f))) (ha : h a = some (.inl (E.1.2 0, n1, .inl g))) (h4 : sp + cnt ≤ n0) (h5 : dp + cnt ≤ n1) (hn0 : n0 < 2 ^ 31) (hn1 : n1 < 2 ^ 31) (hR : 1 ≤ xd M) (hcat : (r.map fun v => v.category).sum ≤ 8) (kk : PW E M Q 0 0 (pc + 3) lo r (va_up h a (some (.inl (E.1.2 0, n1, .inl (va_cpy f g sp dp cnt)))))) : PW E M Q 0 0 pc lo (.int (nI cnt) :: .int (nI dp) :: .ref a :: .int (nI sp) :: .ref a0 :: r) h := by
  intro l p e s m args below meth c C H locs ls hH hS hlv T hT X
  have hts := C.2.2.2.2.2.2.1
  have hK := C.2.2.2.2.2.2.2.1.1
  have bs : sp < 2 ^ 31 := by omega
  have hnat : nativeFrameWords "java/lang/System" "arraycopy" 5 ≤ 20 := by decide
  have bd : dp < 2 ^ 31 := by omega
  have bc : cnt < 2 ^ 31 := by omega
  obtain ⟨hc0, -⟩ := hH.1 a0 _ ha0
  obtain ⟨hc1, hza⟩ := hH.1 a _ ha
  have hc0 : H[a0]? = some (vp_cell (E.1.2 0) (n0, .inl f)) := hc0
  have hc1 : H[a]? = some (vp_cell (E.1.2 0) (n1, .inl g)) := hc1
  obtain ⟨-, k0, hk0, cm0, hkk0⟩ := (hK.2 0 (E.1.2 0, .int) rfl).1 n0 (fun j => .int (f j))
  obtain ⟨-, k1, hk1, cm1, hkk1⟩ := (hK.2 0 (E.1.2 0, .int) rfl).1 n1 (fun j => .int (g j))
  obtain ⟨vm', X', step⟩ := X.arraycopy C.1 C.2.2.2.2.2.1 (hts _ hl) (hts _ wn_arraycopy) (hts _ wt_arraycopy) (hts _ wi_java_lang_System) (src := a0) (dst := a) (cs := vp_cell (E.1.2 0) (n0, .inl f)) (cd := vp_cell (E.1.2 0) (n1, .inl g)) (srcPos := nI sp) (destPos := nI dp) (n := nI cnt) (by rw [hT]; exact hc0) (by rw [hT]; exact hc1)
    (fun _ h => by cases h) (fun _ h => by cases h) (fun h => by cases h) (fun h => by cases h) hk0 hk1 hkk0 hkk1 (by simp [refKind]) (nI_pos bs) (nI_pos bd) (nI_pos bc)
    (by rw [nI_toInt bs, nI_toInt bc]; show ¬ _ > ((arrV (E.1.2 0) n0 (fun j => .int (f j))).slots.size : Int); rw [arrV_size]; omega)
    (by rw [nI_toInt bd, nI_toInt bc]; show ¬ _ > ((arrV (E.1.2 0) n1 (fun j => .int (g j))).slots.size : Int); rw [arrV_size]; omega)
    (fun vm₁ _ i hi => by
      rw [nI_clamp bc] at hi
      have e : (vp_cell (E.1.2 0) (n0, .inl f)).slots.getD ((nI sp).toNatClampNeg + i) .null = .int (f ((nI sp).toNatClampNeg + i)) := by
        show (arrV (E.1.2 0) n0 (fun j => .int (f j))).slots.getD _ _ = _
        rw [Array.getD_eq_getD_getElem?, arrV_read _ _ (by rw [nI_clamp bs]; omega)]
        rfl
      refine ⟨?_, ?_⟩
      · rw [e]; rfl
      · rw [e]; exact trivial)
    (g := F0 m pc ls (.int (nI cnt) :: .int (nI dp) :: .ref a :: .int (nI sp) :: .ref a0 :: r)) rfl (by rw [C.2.2.1]; exact hlv.1) (rest := r) rfl (by rw [C.2.1]; exact hd) hR (by show 2 * 0 + _ + (nativeFrameWords "java/lang/System" "arraycopy" 5 + 11) ≤ 39 * xd M; omega)
  have e1 : copied (vp_cell (E.1.2 0) (n0, .inl f)) (vp_cell (E.1.2 0) (n1, .inl g)) (nI sp) (nI dp) (nI cnt) = vp_cell (E.1.2 0) (n1, .inl (va_cpy f g sp dp cnt)) := by
    have := va_copied (fun z => Value.int z) (E.1.2 0) (E.1.2 0) (n0 := n0) (n1 := n1) (sp := sp) (dp := dp) (n := cnt) f g h4
    show (arrV (E.1.2 0) n1 (fun j => .int (g j))).storeRun (nI dp).toNatClampNeg ((arrV (E.1.2 0) n0 (fun j => .int (f j))).stretch (nI sp).toNatClampNeg (nI cnt).toNatClampNeg) = _
    rw [nI_clamp bs, nI_clamp bd, nI_clamp bc]
    exact this
  rw [e1] at X' step
  have hlt : a < H.size := (Array.getElem?_eq_some_iff.mp hc1).1
  have hheap : ((T.setVm vm').setCell a (vp_cell (E.1.2 0) (n1, .inl (va_cpy f g sp dp cnt)))).heap = H.setIfInBounds a (vp_cell (E.1.2 0) (n1, .inl (va_cpy f g sp dp cnt))) := by rw [← hT]; rfl
  have oq : ∀ q : Nat, q ≠ a → (H.setIfInBounds a (vp_cell (E.1.2 0) (n1, .inl (va_cpy f g sp dp cnt))))[q]? = H[q]? := fun q hq => by simp [Array.getElem?_setIfInBounds, Ne.symm hq]
  obtain ⟨t, a1, b1⟩ := kk l p e s m args below meth c C _ _ ls (xHold_put hH ha (show (H.setIfInBounds a _)[a]? = some _ by simp [Array.getElem?_setIfInBounds, hlt]) oq (by simp)) ⟨by simp; exact hS.1, fun q g1 g2 => by
      rw [oq q (fun e => g2 (by rw [e]; exact hza))]
      exact hS.2.1 q g1 g2, fun q hq => by
      rcases List.mem_append.mp hq with h | h
      · exact hS.2.2 q h
      · obtain ⟨z, -, hz⟩ := List.mem_map.mp h
        rw [← hz]
        exact hza⟩ hlv _ hheap X'
  exact ⟨t, step t a1, b1⟩
end PXCP
/-! ===== blocks of cells ===== -/
def putB (h : xHp) (k L : Nat) (f : Nat → Option va_E) : xHp := fun q => if k ≤ q ∧ q < k + L then f (q - k) else h q
theorem putB_at {h : xHp} {k L j : Nat} {f : Nat → Option va_E} (hj : j < L) : putB h k L f (k + j) = f j := by
  unfold putB
  rw [if_pos ⟨by omega, by omega⟩, Nat.add_sub_cancel_left]
theorem putB_0 {h : xHp} {k L : Nat} {f : Nat → Option va_E} (hL : 0 < L) : putB h k L f k = f 0 := putB_at (j := 0) hL
theorem putB_out {h : xHp} {k L q : Nat} {f : Nat → Option va_E} (hq : q < k ∨ k + L ≤ q) : putB h k L f q = h q := by
  unfold putB
  rw [if_neg (by omega)]
theorem putB_up {h : xHp} {k L j : Nat} {f : Nat → Option va_E} {c : Option va_E} (hj : j < L) : va_up (putB h k L f) (k + j) c = putB h k L (va_up f j c) := by
  funext q
  unfold putB
  by_cases hq : q = k + j
  · subst hq
    rw [va_up_self, if_pos ⟨by omega, by omega⟩, Nat.add_sub_cancel_left, va_up_self]
  · rw [va_up_ne _ _ hq]
    by_cases hr : k ≤ q ∧ q < k + L
    · rw [if_pos hr, if_pos hr, va_up_ne _ _ (by omega)]
    · rw [if_neg hr, if_neg hr]
theorem putB_twice {h : xHp} {k L : Nat} {f g : Nat → Option va_E} : putB (putB h k L f) k L g = putB h k L g := by
  funext q
  unfold putB
  by_cases hr : k ≤ q ∧ q < k + L
  · rw [if_pos hr, if_pos hr]
  · rw [if_neg hr, if_neg hr, if_neg hr]
theorem putB_self {h : xHp} {k L : Nat} {f : Nat → Option va_E} (hf : ∀ j, j < L → h (k + j) = f j) : putB h k L f = h := by
  funext q
  unfold putB
  by_cases hr : k ≤ q ∧ q < k + L
  · rw [if_pos hr, ← hf (q - k) (by omega)]
    congr 1
    omega
  · rw [if_neg hr]
theorem putB_congr {h : xHp} {k L : Nat} {f g : Nat → Option va_E} (hf : ∀ j, j < L → f j = g j) : putB h k L f = putB h k L g := by
  funext q
  unfold putB
  by_cases hr : k ≤ q ∧ q < k + L
  · rw [if_pos hr, if_pos hr, hf _ (by omega)]
  · rw [if_neg hr, if_neg hr]
theorem putB_swap {h : xHp} {k L k2 L2 : Nat} {f g : Nat → Option va_E} (hd : k + L ≤ k2 ∨ k2 + L2 ≤ k) : putB (putB h k L f) k2 L2 g = putB (putB h k2 L2 g) k L f := by
  funext q
  unfold putB
  by_cases h1 : k ≤ q ∧ q < k + L
  · rw [if_neg (by omega), if_pos h1, if_pos h1]
  · by_cases h2 : k2 ≤ q ∧ q < k2 + L2
    · rw [if_pos h2, if_neg h1, if_pos h2]
    · rw [if_neg h2, if_neg h1, if_neg h1, if_neg h2]
/-! ===== a town ===== -/
abbrev xT : Type := (Nat → Nat → Nat) × (Nat → Nat)
def twN (j : Nat) : Nat := if j < 4 then 6 else 4
def twC (E : xE) (k : Nat) (T : xT) : Nat → Option va_E
  | 0 => some (.inr (4, [.ref (k + 1), .ref (k + 2), .ref (k + 3), .ref (k + 4), .ref (k + 5), .ref (k + 6), .int (nI (T.2 0)), .int (nI (T.2 1)), .int (nI (T.2 2)), .int (nI (T.2 3)), .int (nI (T.2 4)), .int (nI (T.2 5)), .int (nI (T.2 6))]))
  | j + 1 => some (.inl (E.1.2 0, twN j, .inl (fun i => nI (T.1 j i))))
abbrev TH (E : xE) (h : xHp) (k : Nat) (T : xT) : xHp := putB h k 7 (twC E k T)
def tSA (T : xT) (j i v : Nat) : xT := (fun j' i' => if j' = j ∧ i' = i then v else T.1 j' i', T.2)
def tSS (T : xT) (j v : Nat) : xT := (T.1, fun j' => if j' = j then v else T.2 j')
section PXT
variable {E : xE} {M : xM} {Q : Option Value → xHp → Prop} {k n pc : Nat} {lo : List (Option Value)} {r : List Value} {h : xHp} {T : xT} {b : Nat}
theorem TH_obj : TH E h b T b = twC E b T 0 := putB_0 (by decide)
theorem TH_arr {j : Nat} (hj : j < 6) : TH E h b T (b + (j + 1)) = some (.inl (E.1.2 0, twN j, .inl (fun i => nI (T.1 j i)))) := putB_at (j := j + 1) (by omega)
theorem px_tS {idx : Nat} (j : Nat) (hd : decode (xC M) pc = .ok (.getfield idx, 3)) (hl : xFL (xY M).cls idx (TX4 (6 + j)).1 (TX4 (6 + j)).2.1 (TX4 (6 + j)).2.2.1) (hj : j < 7) (kk : PW E M Q k n (pc + 3) lo (.int (nI (T.2 j)) :: r) (TH E h b T)) : PW E M Q k n pc lo (.ref b :: r) (TH E h b T) := by
  refine px_get xk_X4 (6 + j) hd hl TH_obj (by omega) ?_ kk
  match j, hj with
  | 0, _ => rfl
  | 1, _ => rfl
  | 2, _ => rfl
  | 3, _ => rfl
  | 4, _ => rfl
  | 5, _ => rfl
  | 6, _ => rfl
theorem px_tR {idx : Nat} (j : Nat) (hd : decode (xC M) pc = .ok (.getfield idx, 3)) (hl : xFL (xY M).cls idx (TX4 j).1 (TX4 j).2.1 (TX4 j).2.2.1) (hj : j < 6) (kk : PW E M Q k n (pc + 3) lo (.ref (b + (j + 1)) :: r) (TH E h b T)) : PW E M Q k n pc lo (.ref b :: r) (TH E h b T) := by
  refine px_get xk_X4 j hd hl TH_obj (by omega) ?_ kk
  match j, hj with
  | 0, _ => rfl
  | 1, _ => rfl
  | 2, _ => rfl
  | 3, _ => rfl
  | 4, _ => rfl
  | 5, _ => rfl
theorem px_tL {i : Nat} (j : Nat) (hd : decode (xC M) pc = .ok (.iaload, 1)) (hj : j < 6) (hi : i < twN j) (kk : PW E M Q k n (pc + 1) lo (.int (nI (T.1 j i)) :: r) (TH E h b T)) : PW E M Q k n pc lo (.int (nI i) :: .ref (b + (j + 1)) :: r) (TH E h b T) := by
  have hN : twN j < 2 ^ 31 := by unfold twN; split <;> decide
  refine px_iald hd (TH_arr hj) (vp_in_nI hi hN) ?_
  rw [nI_clamp (by omega)]
  exact kk
theorem tw_upA {i v : Nat} {j : Nat} (hj : j < 6) : va_up (TH E h b T) (b + (j + 1)) (some (.inl (E.1.2 0, twN j, .inl (upd (fun i => nI (T.1 j i)) i (nI v))))) = TH E h b (tSA T j i v) := by
  unfold TH
  rw [putB_up (by omega)]
  refine putB_congr (fun q hq => ?_)
  match q with
  | 0 => rw [va_up_ne _ _ (by omega)]; rfl
  | q + 1 =>
    by_cases hqj : q = j
    · subst hqj
      rw [va_up_self]
      show _ = some (Sum.inl (E.1.2 0, twN q, Sum.inl (fun i' => nI ((tSA T q i v).1 q i'))))
      congr 5
      funext i'
      by_cases hi : i' = i
      · subst hi; simp [upd, tSA]
      · simp [upd, tSA, hi]
    · rw [va_up_ne _ _ (by omega)]
      show some (Sum.inl (E.1.2 0, twN q, Sum.inl (fun i' => nI (T.1 q i')))) = some (Sum.inl (E.1.2 0, twN q, Sum.inl (fun i' => nI ((tSA T j i v).1 q i'))))
      congr 5
      funext i'
      simp [tSA, hqj]
theorem px_tW {i v : Nat} (j : Nat) (hd : decode (xC M) pc = .ok (.iastore, 1)) (hj : j < 6) (hi : i < twN j) (kk : PW E M Q k n (pc + 1) lo r (TH E h b (tSA T j i v))) : PW E M Q k n pc lo (.int (nI v) :: .int (nI i) :: .ref (b + (j + 1)) :: r) (TH E h b T) := by
  have hN : twN j < 2 ^ 31 := by unfold twN; split <;> decide
  refine px_iast hd (TH_arr hj) (vp_in_nI hi hN) ?_
  rw [nI_clamp (by omega), tw_upA hj]
  exact kk
theorem tw_upS {j v : Nat} {fs : List Value} (hfs : twC E b T 0 = some (.inr (4, fs))) (hj : j < 7) : va_up (TH E h b T) b (some (.inr (4, fs.set (6 + j) (.int (nI v))))) = TH E h b (tSS T j v) := by
  have e0 : va_up (TH E h b T) b (some (.inr (4, fs.set (6 + j) (.int (nI v))))) = va_up (TH E h b T) (b + 0) (some (.inr (4, fs.set (6 + j) (.int (nI v))))) := rfl
  rw [e0]
  unfold TH
  rw [putB_up (by omega)]
  refine putB_congr (fun q hq => ?_)
  cases hfs
  match q with
  | 0 =>
    rw [va_up_self]
    match j, hj with
    | 0, _ => rfl
    | 1, _ => rfl
    | 2, _ => rfl
    | 3, _ => rfl
    | 4, _ => rfl
    | 5, _ => rfl
    | 6, _ => rfl
  | q + 1 =>
    rw [va_up_ne _ _ (by omega)]
    rfl
theorem px_tP {idx v : Nat} (j : Nat) (hd : decode (xC M) pc = .ok (.putfield idx, 3)) (hl : xFL (xY M).cls idx (TX4 (6 + j)).1 (TX4 (6 + j)).2.1 (TX4 (6 + j)).2.2.1) (hj : j < 7) (kk : PW E M Q k n (pc + 3) lo r (TH E h b (tSS T j v))) : PW E M Q k n pc lo (.int (nI v) :: .ref b :: r) (TH E h b T) := by
  have hq : ∀ i, i < 7 → (TX4 (6 + i)).2.2.2 = false ∧ tyX4 (6 + i) = .int := by decide
  obtain ⟨q1, q2⟩ := hq j hj
  refine px_put xk_X4 (6 + j) hd hl TH_obj (by omega) (by show 6 + j < 13; omega) q1 (by rw [q2]; rfl) (by rw [q2]; rfl) ?_
  rw [tw_upS rfl hj]
  exact kk
end PXT
