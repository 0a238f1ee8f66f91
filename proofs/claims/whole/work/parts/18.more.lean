section PXF
variable {E : xE} {M : xM} {Q : Option Value → xHp → Prop} {k n pc : Nat} {r : List Value} {h : xHp} {lo : List (Option Value)} {a : Nat}
theorem px_weak {lo2 : List (Option Value)} (hs : ∀ (i : Nat) (v : Value), lo2[i]? = some (some v) → lo[i]? = some (some v)) (kk : PW E M Q k n pc lo2 r h) : PW E M Q k n pc lo r h := fun l p e s m args below meth c C H locs ls hH hS hl => kk l p e s m args below meth c C H locs ls hH hS ⟨hl.1, hl.2.1, fun i v hi => hl.2.2 i v (hs i v hi)⟩
theorem px_fg_0 {a0 : Option Value} {tl : List (Option Value)} (kk : PW E M Q k n pc (none :: tl) r h) : PW E M Q k n pc (a0 :: tl) r h := px_weak (fun i v hi => by
  by_cases hc : i = 0
  · subst hc; cases hi
  · have e : (none :: tl : List (Option Value)) = (a0 :: tl : List (Option Value)).set 0 none := rfl
    rw [e, List.getElem?_set_ne (Ne.symm hc)] at hi
    exact hi) kk
theorem px_fg_1 {a0 a1 : Option Value} {tl : List (Option Value)} (kk : PW E M Q k n pc (a0 :: none :: tl) r h) : PW E M Q k n pc (a0 :: a1 :: tl) r h := px_weak (fun i v hi => by
  by_cases hc : i = 1
  · subst hc; cases hi
  · have e : (a0 :: none :: tl : List (Option Value)) = (a0 :: a1 :: tl : List (Option Value)).set 1 none := rfl
    rw [e, List.getElem?_set_ne (Ne.symm hc)] at hi
    exact hi) kk
theorem px_fg_2 {a0 a1 a2 : Option Value} {tl : List (Option Value)} (kk : PW E M Q k n pc (a0 :: a1 :: none :: tl) r h) : PW E M Q k n pc (a0 :: a1 :: a2 :: tl) r h := px_weak (fun i v hi => by
  by_cases hc : i = 2
  · subst hc; cases hi
  · have e : (a0 :: a1 :: none :: tl : List (Option Value)) = (a0 :: a1 :: a2 :: tl : List (Option Value)).set 2 none := rfl
    rw [e, List.getElem?_set_ne (Ne.symm hc)] at hi
    exact hi) kk
theorem px_fg_3 {a0 a1 a2 a3 : Option Value} {tl : List (Option Value)} (kk : PW E M Q k n pc (a0 :: a1 :: a2 :: none :: tl) r h) : PW E M Q k n pc (a0 :: a1 :: a2 :: a3 :: tl) r h := px_weak (fun i v hi => by
  by_cases hc : i = 3
  · subst hc; cases hi
  · have e : (a0 :: a1 :: a2 :: none :: tl : List (Option Value)) = (a0 :: a1 :: a2 :: a3 :: tl : List (Option Value)).set 3 none := rfl
    rw [e, List.getElem?_set_ne (Ne.symm hc)] at hi
    exact hi) kk
theorem px_fg_4 {a0 a1 a2 a3 a4 : Option Value} {tl : List (Option Value)} (kk : PW E M Q k n pc (a0 :: a1 :: a2 :: a3 :: none :: tl) r h) : PW E M Q k n pc (a0 :: a1 :: a2 :: a3 :: a4 :: tl) r h := px_weak (fun i v hi => by
  by_cases hc : i = 4
  · subst hc; cases hi
  · have e : (a0 :: a1 :: a2 :: a3 :: none :: tl : List (Option Value)) = (a0 :: a1 :: a2 :: a3 :: a4 :: tl : List (Option Value)).set 4 none := rfl
    rw [e, List.getElem?_set_ne (Ne.symm hc)] at hi
    exact hi) kk
theorem px_fg_5 {a0 a1 a2 a3 a4 a5 : Option Value} {tl : List (Option Value)} (kk : PW E M Q k n pc (a0 :: a1 :: a2 :: a3 :: a4 :: none :: tl) r h) : PW E M Q k n pc (a0 :: a1 :: a2 :: a3 :: a4 :: a5 :: tl) r h := px_weak (fun i v hi => by
  by_cases hc : i = 5
  · subst hc; cases hi
  · have e : (a0 :: a1 :: a2 :: a3 :: a4 :: none :: tl : List (Option Value)) = (a0 :: a1 :: a2 :: a3 :: a4 :: a5 :: tl : List (Option Value)).set 5 none := rfl
    rw [e, List.getElem?_set_ne (Ne.symm hc)] at hi
    exact hi) kk
theorem px_fg_6 {a0 a1 a2 a3 a4 a5 a6 : Option Value} {tl : List (Option Value)} (kk : PW E M Q k n pc (a0 :: a1 :: a2 :: a3 :: a4 :: a5 :: none :: tl) r h) : PW E M Q k n pc (a0 :: a1 :: a2 :: a3 :: a4 :: a5 :: a6 :: tl) r h := px_weak (fun i v hi => by
  by_cases hc : i = 6
  · subst hc; cases hi
  · have e : (a0 :: a1 :: a2 :: a3 :: a4 :: a5 :: none :: tl : List (Option Value)) = (a0 :: a1 :: a2 :: a3 :: a4 :: a5 :: a6 :: tl : List (Option Value)).set 6 none := rfl
    rw [e, List.getElem?_set_ne (Ne.symm hc)] at hi
    exact hi) kk
theorem px_fg_7 {a0 a1 a2 a3 a4 a5 a6 a7 : Option Value} {tl : List (Option Value)} (kk : PW E M Q k n pc (a0 :: a1 :: a2 :: a3 :: a4 :: a5 :: a6 :: none :: tl) r h) : PW E M Q k n pc (a0 :: a1 :: a2 :: a3 :: a4 :: a5 :: a6 :: a7 :: tl) r h := px_weak (fun i v hi => by
  by_cases hc : i = 7
  · subst hc; cases hi
  · have e : (a0 :: a1 :: a2 :: a3 :: a4 :: a5 :: a6 :: none :: tl : List (Option Value)) = (a0 :: a1 :: a2 :: a3 :: a4 :: a5 :: a6 :: a7 :: tl : List (Option Value)).set 7 none := rfl
    rw [e, List.getElem?_set_ne (Ne.symm hc)] at hi
    exact hi) kk
theorem px_fg_8 {a0 a1 a2 a3 a4 a5 a6 a7 a8 : Option Value} {tl : List (Option Value)} (kk : PW E M Q k n pc (a0 :: a1 :: a2 :: a3 :: a4 :: a5 :: a6 :: a7 :: none :: tl) r h) : PW E M Q k n pc (a0 :: a1 :: a2 :: a3 :: a4 :: a5 :: a6 :: a7 :: a8 :: tl) r h := px_weak (fun i v hi => by
  by_cases hc : i = 8
  · subst hc; cases hi
  · have e : (a0 :: a1 :: a2 :: a3 :: a4 :: a5 :: a6 :: a7 :: none :: tl : List (Option Value)) = (a0 :: a1 :: a2 :: a3 :: a4 :: a5 :: a6 :: a7 :: a8 :: tl : List (Option Value)).set 8 none := rfl
    rw [e, List.getElem?_set_ne (Ne.symm hc)] at hi
    exact hi) kk
theorem px_fg_9 {a0 a1 a2 a3 a4 a5 a6 a7 a8 a9 : Option Value} {tl : List (Option Value)} (kk : PW E M Q k n pc (a0 :: a1 :: a2 :: a3 :: a4 :: a5 :: a6 :: a7 :: a8 :: none :: tl) r h) : PW E M Q k n pc (a0 :: a1 :: a2 :: a3 :: a4 :: a5 :: a6 :: a7 :: a8 :: a9 :: tl) r h := px_weak (fun i v hi => by
  by_cases hc : i = 9
  · subst hc; cases hi
  · have e : (a0 :: a1 :: a2 :: a3 :: a4 :: a5 :: a6 :: a7 :: a8 :: none :: tl : List (Option Value)) = (a0 :: a1 :: a2 :: a3 :: a4 :: a5 :: a6 :: a7 :: a8 :: a9 :: tl : List (Option Value)).set 9 none := rfl
    rw [e, List.getElem?_set_ne (Ne.symm hc)] at hi
    exact hi) kk
theorem px_fg_10 {a0 a1 a2 a3 a4 a5 a6 a7 a8 a9 a10 : Option Value} {tl : List (Option Value)} (kk : PW E M Q k n pc (a0 :: a1 :: a2 :: a3 :: a4 :: a5 :: a6 :: a7 :: a8 :: a9 :: none :: tl) r h) : PW E M Q k n pc (a0 :: a1 :: a2 :: a3 :: a4 :: a5 :: a6 :: a7 :: a8 :: a9 :: a10 :: tl) r h := px_weak (fun i v hi => by
  by_cases hc : i = 10
  · subst hc; cases hi
  · have e : (a0 :: a1 :: a2 :: a3 :: a4 :: a5 :: a6 :: a7 :: a8 :: a9 :: none :: tl : List (Option Value)) = (a0 :: a1 :: a2 :: a3 :: a4 :: a5 :: a6 :: a7 :: a8 :: a9 :: a10 :: tl : List (Option Value)).set 10 none := rfl
    rw [e, List.getElem?_set_ne (Ne.symm hc)] at hi
    exact hi) kk
theorem px_fg_11 {a0 a1 a2 a3 a4 a5 a6 a7 a8 a9 a10 a11 : Option Value} {tl : List (Option Value)} (kk : PW E M Q k n pc (a0 :: a1 :: a2 :: a3 :: a4 :: a5 :: a6 :: a7 :: a8 :: a9 :: a10 :: none :: tl) r h) : PW E M Q k n pc (a0 :: a1 :: a2 :: a3 :: a4 :: a5 :: a6 :: a7 :: a8 :: a9 :: a10 :: a11 :: tl) r h := px_weak (fun i v hi => by
  by_cases hc : i = 11
  · subst hc; cases hi
  · have e : (a0 :: a1 :: a2 :: a3 :: a4 :: a5 :: a6 :: a7 :: a8 :: a9 :: a10 :: none :: tl : List (Option Value)) = (a0 :: a1 :: a2 :: a3 :: a4 :: a5 :: a6 :: a7 :: a8 :: a9 :: a10 :: a11 :: tl : List (Option Value)).set 11 none := rfl
    rw [e, List.getElem?_set_ne (Ne.symm hc)] at hi
    exact hi) kk
theorem px_fg_12 {a0 a1 a2 a3 a4 a5 a6 a7 a8 a9 a10 a11 a12 : Option Value} {tl : List (Option Value)} (kk : PW E M Q k n pc (a0 :: a1 :: a2 :: a3 :: a4 :: a5 :: a6 :: a7 :: a8 :: a9 :: a10 :: a11 :: none :: tl) r h) : PW E M Q k n pc (a0 :: a1 :: a2 :: a3 :: a4 :: a5 :: a6 :: a7 :: a8 :: a9 :: a10 :: a11 :: a12 :: tl) r h := px_weak (fun i v hi => by
  by_cases hc : i = 12
  · subst hc; cases hi
  · have e : (a0 :: a1 :: a2 :: a3 :: a4 :: a5 :: a6 :: a7 :: a8 :: a9 :: a10 :: a11 :: none :: tl : List (Option Value)) = (a0 :: a1 :: a2 :: a3 :: a4 :: a5 :: a6 :: a7 :: a8 :: a9 :: a10 :: a11 :: a12 :: tl : List (Option Value)).set 12 none := rfl
    rw [e, List.getElem?_set_ne (Ne.symm hc)] at hi
    exact hi) kk
theorem px_fg_13 {a0 a1 a2 a3 a4 a5 a6 a7 a8 a9 a10 a11 a12 a13 : Option Value} {tl : List (Option Value)} (kk : PW E M Q k n pc (a0 :: a1 :: a2 :: a3 :: a4 :: a5 :: a6 :: a7 :: a8 :: a9 :: a10 :: a11 :: a12 :: none :: tl) r h) : PW E M Q k n pc (a0 :: a1 :: a2 :: a3 :: a4 :: a5 :: a6 :: a7 :: a8 :: a9 :: a10 :: a11 :: a12 :: a13 :: tl) r h := px_weak (fun i v hi => by
  by_cases hc : i = 13
  · subst hc; cases hi
  · have e : (a0 :: a1 :: a2 :: a3 :: a4 :: a5 :: a6 :: a7 :: a8 :: a9 :: a10 :: a11 :: a12 :: none :: tl : List (Option Value)) = (a0 :: a1 :: a2 :: a3 :: a4 :: a5 :: a6 :: a7 :: a8 :: a9 :: a10 :: a11 :: a12 :: a13 :: tl : List (Option Value)).set 13 none := rfl
    rw [e, List.getElem?_set_ne (Ne.symm hc)] at hi
    exact hi) kk
theorem px_fg_14 {a0 a1 a2 a3 a4 a5 a6 a7 a8 a9 a10 a11 a12 a13 a14 : Option Value} {tl : List (Option Value)} (kk : PW E M Q k n pc (a0 :: a1 :: a2 :: a3 :: a4 :: a5 :: a6 :: a7 :: a8 :: a9 :: a10 :: a11 :: a12 :: a13 :: none :: tl) r h) : PW E M Q k n pc (a0 :: a1 :: a2 :: a3 :: a4 :: a5 :: a6 :: a7 :: a8 :: a9 :: a10 :: a11 :: a12 :: a13 :: a14 :: tl) r h := px_weak (fun i v hi => by
  by_cases hc : i = 14
  · subst hc; cases hi
  · have e : (a0 :: a1 :: a2 :: a3 :: a4 :: a5 :: a6 :: a7 :: a8 :: a9 :: a10 :: a11 :: a12 :: a13 :: none :: tl : List (Option Value)) = (a0 :: a1 :: a2 :: a3 :: a4 :: a5 :: a6 :: a7 :: a8 :: a9 :: a10 :: a11 :: a12 :: a13 :: a14 :: tl : List (Option Value)).set 14 none := rfl
    rw [e, List.getElem?_set_ne (Ne.symm hc)] at hi
    exact hi) kk
theorem px_if_ltN {off : Int} (tgt : Nat) (hd : decode (xC M) pc = .ok (.ifCond .lt off, 3)) (ht : (pc : Int) + off = (tgt : Int)) (ha : a < 2 ^ 31) (kf : PW E M Q k n (pc + 3) lo r h) : PW E M Q k n pc lo (.int (nI a) :: r) h := px_if_lt tgt hd ht (fun z => absurd z (nI_pos ha)) (fun _ => kf)
theorem px_if_geN {off : Int} (tgt : Nat) (hd : decode (xC M) pc = .ok (.ifCond .ge off, 3)) (ht : (pc : Int) + off = (tgt : Int)) (ha : a < 2 ^ 31) (kt : PW E M Q k n tgt lo r h) : PW E M Q k n pc lo (.int (nI a) :: r) h := px_if_ge tgt hd ht (fun _ => kt) (fun z => absurd (nI_pos' ha) z)
theorem px_if_leN {off : Int} (tgt : Nat) (hd : decode (xC M) pc = .ok (.ifCond .le off, 3)) (ht : (pc : Int) + off = (tgt : Int)) (ha : a < 2 ^ 31) (kt : a = 0 → PW E M Q k n tgt lo r h) (kf : 0 < a → PW E M Q k n (pc + 3) lo r h) : PW E M Q k n pc lo (.int (nI a) :: r) h := px_if_le tgt hd ht (fun z => kt (by have := (nI_leI (b := 0) ha (by decide)).mp z; omega)) (fun z => kf (by
  rcases Nat.eq_zero_or_pos a with q | q
  · subst q; exact absurd (by decide) z
  · exact q))
theorem px_if_gtN {off : Int} (tgt : Nat) (hd : decode (xC M) pc = .ok (.ifCond .gt off, 3)) (ht : (pc : Int) + off = (tgt : Int)) (ha : a < 2 ^ 31) (kt : 0 < a → PW E M Q k n tgt lo r h) (kf : a = 0 → PW E M Q k n (pc + 3) lo r h) : PW E M Q k n pc lo (.int (nI a) :: r) h := px_if_gt tgt hd ht (fun z => kt ((nI_ltI (a := 0) (by decide) ha).mp z)) (fun z => kf (by
  rcases Nat.eq_zero_or_pos a with q | q
  · exact q
  · exact absurd ((nI_ltI (a := 0) (by decide) ha).mpr q) z))
/-- two maps of cells that no machine can tell apart -/
def xEqv (h h2 : xHp) : Prop := ∀ a : Nat, h a = h2 a ∨ ∃ (cA : ClassId) (len : Nat) (f g : Nat → Int32), h a = some (.inl (cA, len, .inl f)) ∧ h2 a = some (.inl (cA, len, .inl g)) ∧ ∀ i, i < len → f i = g i
theorem arrV_cong {cA : ClassId} {len : Nat} {f g : Nat → Value} (hf : ∀ i, i < len → f i = g i) : arrV cA len f = arrV cA len g := by
  unfold arrV
  congr 1
  apply Array.ext
  · simp
  · intro i h1 h2
    simp only [Array.getElem_ofFn]
    exact hf i (by simpa using h1)
theorem xHold_eqv {h2 : xHp} {H : Heap} (he : xEqv h h2) (hH : xHold E h H) : xHold E h2 H := by
  obtain ⟨h1, h2', h3⟩ := hH
  refine ⟨fun q e hq => ?_, fun q hq => ?_, h3⟩
  · rcases he q with e1 | ⟨cA, len, f, g, e1, e2, e3⟩
    · exact h1 q e (e1.trans hq)
    · rw [e2] at hq
      cases hq
      obtain ⟨g1, g2⟩ := h1 q _ e1
      refine ⟨?_, g2⟩
      show H[q]? = some (vp_cell cA (len, .inl g))
      rw [vp_cell_i, ← arrV_cong (f := fun j => Value.int (f j)) (fun i hi => by rw [e3 i hi])]
      exact g1
  · rw [← h2' q hq]
    rcases he q with e1 | ⟨cA, len, f, g, e1, e2, e3⟩
    · rw [e1]
    · rw [e1, e2]; simp
theorem px_eqv {h2 : xHp} (he : xEqv h h2) (kk : PW E M Q k n pc lo r h2) : PW E M Q k n pc lo r h := fun l p e s m args below meth c C H locs ls hH hS hl => kk l p e s m args below meth c C H locs ls (xHold_eqv he hH) hS hl
end PXF
def ndif (x y : Nat) : Nat := (x ||| y) ^^^ y
theorem nx_dif (x y : Nat) : nI x &&& (nI y ^^^ (-1)) = nI (ndif x y) := by
  apply i32_ext
  rw [Int32.toBitVec_and, Int32.toBitVec_xor, nI_bv, nI_bv, nI_bv]
  have e1 : (-1 : Int32).toBitVec = BitVec.allOnes 32 := by decide
  rw [e1]
  apply BitVec.eq_of_getLsbD_eq
  intro i hi
  rw [BitVec.getLsbD_and, BitVec.getLsbD_xor, BitVec.getLsbD_ofNat, BitVec.getLsbD_ofNat, BitVec.getLsbD_ofNat, BitVec.getLsbD_allOnes, ndif, Nat.testBit_xor, Nat.testBit_or]
  simp only [hi, decide_true, Bool.true_and]
  cases x.testBit i <;> cases y.testBit i <;> rfl
theorem ndif_tb (x y i : Nat) : (ndif x y).testBit i = (x.testBit i && !y.testBit i) := by
  rw [ndif, Nat.testBit_xor, Nat.testBit_or]
  cases x.testBit i <;> cases y.testBit i <;> rfl
theorem ndif_lt {x y n : Nat} (h : x < 2 ^ n) : ndif x y < 2 ^ n := by
  apply Nat.lt_pow_two_of_testBit
  intro i hi
  rw [ndif_tb, Nat.testBit_lt_two_pow (Nat.lt_of_lt_of_le h (Nat.pow_le_pow_right (by omega) hi))]
  rfl
theorem nI_min {a b : Nat} (ha : a < 2 ^ 31) (hb : b < 2 ^ 31) : (if nI b < nI a then nI b else nI a) = nI (min a b) := by
  by_cases h : b < a
  · rw [if_pos ((nI_ltI hb ha).mpr h), Nat.min_eq_right (by omega)]
  · rw [if_neg (fun q => h ((nI_ltI hb ha).mp q)), Nat.min_eq_left (by omega)]
theorem nI_max0 {a b : Nat} (ha : a < 2 ^ 30) (hb : b < 2 ^ 30) : (if nI 0 < nI a - nI b then nI a - nI b else nI 0) = nI (a - b) := by
  by_cases h : b ≤ a
  · rw [pk_sub h]
    by_cases h2 : 0 < a - b
    · rw [if_pos ((nI_ltI (by decide) (by omega)).mpr h2)]
    · rw [if_neg (fun q => h2 ((nI_ltI (by decide) (by omega)).mp q)), show a - b = 0 by omega]
  · have h1 := pk_sneg (a := a) hb (by omega)
    rw [if_neg, show a - b = 0 by omega]
    intro q
    have q1 := Int32.lt_iff_toInt_lt.mp q
    have q2 := Int32.lt_iff_toInt_lt.mp h1
    have e0 : (nI 0).toInt = 0 := by decide
    have e1 : (0 : Int32).toInt = 0 := by decide
    omega
theorem and31 (x : Nat) : x &&& 2147483647 = x % 2147483648 := Nat.and_two_pow_sub_one_eq_mod x 31
