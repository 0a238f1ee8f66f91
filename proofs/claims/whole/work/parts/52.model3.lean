/-! ===== the reference's night against the class's ===== -/
def tprey (T : xT) (hm : Nat → Bool) (t : Nat) : Option Nat := if hm t then none else tvic T t (trob T hm t) (T.2 0)
theorem tvic_nr {T : xT} {t rob : Nat} : ∀ {n a : Nat}, tvic T t rob n = some a → rob.testBit a = false ∧ tmay T t a = true ∧ a < n
  | 0, _, h => by cases h
  | n + 1, a, h => by
    by_cases hq : rob.testBit n = false ∧ tmay T t n = true
    · cases hv : tvic T t rob n with
      | none =>
        rw [tvic_yes hq.1 hq.2 (Or.inl hv)] at h
        cases h
        exact ⟨hq.1, hq.2, by omega⟩
      | some b =>
        by_cases hd : T.1 2 b < T.1 2 n
        · rw [tvic_yes hq.1 hq.2 (Or.inr ⟨b, hv, hd⟩)] at h
          cases h
          exact ⟨hq.1, hq.2, by omega⟩
        · rw [tvic_no (Or.inr (Or.inr ⟨b, hv, by omega⟩))] at h
          have := tvic_nr h
          exact ⟨this.1, this.2.1, by omega⟩
    · have hno : tvic T t rob (n + 1) = tvic T t rob n := by
        cases h1 : rob.testBit n
        · cases h2 : tmay T t n
          · exact tvic_no (Or.inr (Or.inl h2))
          · exact absurd ⟨h1, h2⟩ hq
        · exact tvic_no (Or.inl h1)
      rw [hno] at h
      have := tvic_nr h
      exact ⟨this.1, this.2.1, by omega⟩
theorem or_bit {R a b : Nat} : (R ||| 2 ^ a).testBit b = (R.testBit b || decide (a = b)) := by rw [Nat.testBit_or, Nat.testBit_two_pow]
theorem trob_bit {T : xT} {hm : Nat → Bool} : ∀ {n b : Nat}, (trob T hm n).testBit b = true → b < T.2 0
  | 0, b, h => by rw [trob, Nat.zero_testBit] at h; cases h
  | n + 1, b, h => by
    rw [trob] at h
    split at h
    · exact trob_bit h
    · split at h
      · exact trob_bit h
      · rename_i a ha
        rw [or_bit] at h
        by_cases hab : a = b
        · subst hab; exact tvic_lt ha
        · simp only [hab, decide_false, Bool.or_false] at h
          exact trob_bit h
theorem trob_s {T : xT} {hm : Nat → Bool} {n : Nat} : trob T hm (n + 1) = match tprey T hm n with | none => trob T hm n | some a => trob T hm n ||| 2 ^ a := by
  unfold tprey
  cases hh : hm n
  · rw [trob, hh]
    simp only [Bool.false_eq_true, if_false]
    cases tvic T n (trob T hm n) (T.2 0) <;> rfl
  · rw [trob, hh]
    simp only [if_true]
/-- the town once those of R were robbed -/
def URob (T : xT) (R : Nat) (U : xT) : Prop := (∀ j, j ≠ 3 → U.2 j = T.2 j) ∧ (∀ b, (U.2 3).testBit b = ((T.2 3).testBit b || (R.testBit b && decide (T.2 5 ≤ T.1 2 b)))) ∧ (∀ j b, U.1 j b = if R.testBit b = true ∧ T.1 2 b < T.2 5 ∧ (j = 1 ∨ j = 2) then (if j = 1 then (T.1 1 b + 1) % 4 else 0) else T.1 j b)
theorem URob.zero (T : xT) : URob T 0 T := by
  refine ⟨fun j _ => rfl, fun b => ?_, fun j b => ?_⟩
  · rw [Nat.zero_testBit]; simp
  · rw [Nat.zero_testBit, if_neg (by simp)]
theorem URob.at {T U : xT} {R : Nat} (h : URob T R U) {b : Nat} (hb : R.testBit b = false) (j : Nat) : U.1 j b = T.1 j b := by
  rw [h.2.2 j b, hb, if_neg (by simp)]
theorem URob.swn {T U : xT} {R : Nat} (h : URob T R U) {b : Nat} (hb : R.testBit b = false) : (U.2 3).testBit b = (T.2 3).testBit b := by
  rw [h.2.1 b, hb]; simp
theorem URob.hi {T U : xT} {R : Nat} (h : URob T R U) {j b : Nat} (hj : j ≠ 1) (hj2 : j ≠ 2) : U.1 j b = T.1 j b := by
  rw [h.2.2 j b, if_neg (by omega)]
theorem URob.may {T U : xT} {R : Nat} (h : URob T R U) {b t : Nat} (hb : R.testBit b = false) : tmay U t b = tmay T t b := by
  unfold tmay
  rw [h.1 2 (by decide), h.swn hb, h.at hb, h.at hb, h.hi (j := 4) (by decide) (by decide), h.hi (j := 5) (by decide) (by decide)]
theorem URob.vic {T U : xT} {R : Nat} (h : URob T R U) {t : Nat} : ∀ n, tvic U t R n = tvic T t R n
  | 0 => rfl
  | n + 1 => by
    rw [tvic, tvic, h.vic n]
    cases hb : R.testBit n
    · rw [h.may hb, h.at hb]
      cases hv : tvic T t R n with
      | none => rfl
      | some b =>
        simp only [h.at (tvic_nr hv).1]
    · simp
theorem tlose_1 (T : xT) (a j b : Nat) : (tlose T a).1 j b = if b = a ∧ T.1 2 a < T.2 5 ∧ (j = 1 ∨ j = 2) then (if j = 1 then (T.1 1 a + 1) % 4 else 0) else T.1 j b := by
  unfold tlose
  by_cases h : T.2 5 ≤ T.1 2 a
  · rw [if_pos h, if_neg (by omega)]
    rfl
  · rw [if_neg h]
    simp only [tSA]
    by_cases h2 : j = 2 ∧ b = a
    · rw [if_pos h2, if_pos ⟨h2.2, by omega, by omega⟩, if_neg (by omega)]
    · rw [if_neg h2]
      by_cases h1 : j = 1 ∧ b = a
      · rw [if_pos h1, if_pos ⟨h1.2, by omega, by omega⟩, if_pos h1.1]
      · rw [if_neg h1, if_neg (by omega)]
theorem tlose_3 (T : xT) (a b : Nat) : ((tlose T a).2 3).testBit b = ((T.2 3).testBit b || (decide (a = b) && decide (T.2 5 ≤ T.1 2 a))) := by
  unfold tlose
  by_cases h : T.2 5 ≤ T.1 2 a
  · rw [if_pos h]
    show (T.2 3 ||| 2 ^ a).testBit b = _
    rw [or_bit]
    simp [h]
  · rw [if_neg h]
    show (T.2 3).testBit b = _
    simp [h]
theorem tlose_2 (T : xT) (a j : Nat) (hj : j ≠ 3) : (tlose T a).2 j = T.2 j := by
  unfold tlose
  split
  · simp [tSS, hj]
  · rfl
theorem URob.step {T U : xT} {R : Nat} (h : URob T R U) {a : Nat} (ha : R.testBit a = false) : URob T (R ||| 2 ^ a) (tlose U a) := by
  have e1 : U.1 2 a = T.1 2 a := h.at ha 2
  have e5 : U.2 5 = T.2 5 := h.1 5 (by decide)
  refine ⟨fun j hj => (tlose_2 U a j hj).trans (h.1 j hj), fun b => ?_, fun j b => ?_⟩
  · rw [tlose_3, h.2.1 b, or_bit, e1, e5]
    by_cases hab : a = b
    · subst hab
      rw [ha]
      simp
    · simp [hab]
  · rw [tlose_1, e1, e5, or_bit]
    by_cases hab : b = a
    · subst hab
      rw [h.at ha 1, h.at ha j]
      simp
    · rw [if_neg (by omega), h.2.2 j b]
      simp [Ne.symm hab]
theorem tsteps_2 {T : xT} {R j : Nat} (hj : j ≠ 3) : ∀ n, (tsteps T R n).2 j = T.2 j
  | 0 => rfl
  | n + 1 => by
    have ih := tsteps_2 (T := T) (R := R) hj n
    rw [tsteps]
    refine Eq.trans ?_ ih
    unfold tstep
    split
    · exact tlose_2 _ _ _ hj
    · split
      · rfl
      · rfl
/-- the class's steps, place by place -/
def tst1 (T : xT) (R j b : Nat) : Nat := if R.testBit b = true then (if T.1 2 b < T.2 5 ∧ (j = 1 ∨ j = 2) then (if j = 1 then (T.1 1 b + 1) % 4 else 0) else T.1 j b) else if (T.2 3).testBit b = true then T.1 j b else if j = 2 then min 99 (T.1 2 b + tgrow T b) else T.1 j b
theorem tgrow_c {T U : xT} {a : Nat} (h1 : U.1 0 a = T.1 0 a) (h2 : U.2 4 = T.2 4) (h3 : U.2 2 = T.2 2) (h4 : U.1 2 a = T.1 2 a) : tgrow U a = tgrow T a := by
  unfold tgrow tcl
  rw [h1, h2, h3, h4]
theorem tsteps_p {T : xT} {R : Nat} : ∀ n, (∀ b, ((tsteps T R n).2 3).testBit b = ((T.2 3).testBit b || (decide (b < n) && (R.testBit b && decide (T.2 5 ≤ T.1 2 b))))) ∧ ∀ j b, (tsteps T R n).1 j b = if b < n then tst1 T R j b else T.1 j b
  | 0 => ⟨fun b => by simp [tsteps], fun j b => by rw [if_neg (by omega)]; rfl⟩
  | n + 1 => by
    obtain ⟨i1, i2⟩ := tsteps_p (T := T) (R := R) n
    have f0 : ∀ j, (tsteps T R n).1 j n = T.1 j n := fun j => by rw [i2 j n, if_neg (by omega)]
    have f3 : ((tsteps T R n).2 3).testBit n = (T.2 3).testBit n := by rw [i1 n]; simp
    have f5 : (tsteps T R n).2 5 = T.2 5 := tsteps_2 (by decide) n
    have fg : tgrow (tsteps T R n) n = tgrow T n := tgrow_c (f0 0) (tsteps_2 (by decide) n) (tsteps_2 (by decide) n) (f0 2)
    rw [tsteps]
    unfold tstep
    by_cases hR : R.testBit n = true
    · rw [if_pos hR]
      refine ⟨fun b => ?_, fun j b => ?_⟩
      · rw [tlose_3, i1 b, f0 2, f5]
        by_cases hb : n = b
        · subst hb
          simp [hR]
        · have : decide (b < n + 1) = decide (b < n) := decide_eq_decide.mpr (by omega)
          rw [this]
          simp [hb]
      · rw [tlose_1, f0 1, f0 2, f5]
        by_cases hb : b = n
        · subst hb
          rw [if_pos (show b < b + 1 by omega), f0 j]
          unfold tst1
          rw [if_pos hR]
          simp
        · rw [if_neg (by omega), i2 j b]
          by_cases hb2 : b < n
          · rw [if_pos hb2, if_pos (by omega)]
          · rw [if_neg hb2, if_neg (by omega)]
    · rw [if_neg hR, f3, f0 2, fg]
      by_cases hs : (T.2 3).testBit n = true
      · rw [if_pos hs]
        refine ⟨fun b => ?_, fun j b => ?_⟩
        · rw [i1 b]
          by_cases hb : b = n
          · subst hb
            simp [hR]
          · have : decide (b < n + 1) = decide (b < n) := decide_eq_decide.mpr (by omega)
            rw [this]
        · rw [i2 j b]
          by_cases hb : b = n
          · subst hb
            rw [if_neg (by omega), if_pos (by omega)]
            unfold tst1
            rw [if_neg hR, if_pos hs]
          · by_cases hb2 : b < n
            · rw [if_pos hb2, if_pos (by omega)]
            · rw [if_neg hb2, if_neg (by omega)]
      · rw [if_neg hs]
        refine ⟨fun b => ?_, fun j b => ?_⟩
        · show ((tsteps T R n).2 3).testBit b = _
          rw [i1 b]
          by_cases hb : b = n
          · subst hb
            simp [hR]
          · have : decide (b < n + 1) = decide (b < n) := decide_eq_decide.mpr (by omega)
            rw [this]
        · simp only [tSA]
          by_cases hb : b = n
          · subst hb
            rw [if_pos (show b < b + 1 by omega)]
            unfold tst1
            rw [if_neg hR, if_neg hs, i2 j b, if_neg (show ¬ b < b by omega)]
            simp
          · rw [if_neg (by omega), i2 j b]
            by_cases hb2 : b < n
            · rw [if_pos hb2, if_pos (by omega)]
            · rw [if_neg hb2, if_neg (by omega)]
/-- what the reference grows, up to n -/
def VGr (T : xT) (R : Nat) (U V : xT) (n : Nat) : Prop := (∀ j, V.2 j = U.2 j) ∧ ∀ j b, V.1 j b = if b < n ∧ j = 2 ∧ R.testBit b = false ∧ (T.2 3).testBit b = false then min 99 (T.1 2 b + tgrow T b) else U.1 j b
theorem vgr_end {T U V : xT} {hm : Nat → Bool} (hU : URob T (trob T hm (T.2 1)) U) (hV : VGr T (trob T hm (T.2 1)) U V (T.2 0)) : tlk (tSS V 4 (V.2 4 + 1)) (tpass T hm) := by
  obtain ⟨v1, v2⟩ := hV
  obtain ⟨p1, p2⟩ := tsteps_p (T := T) (R := trob T hm (T.2 1)) (T.2 0)
  have s3 : (tsteps T (trob T hm (T.2 1)) (T.2 0)).2 3 = V.2 3 := by
    apply Nat.eq_of_testBit_eq
    intro b
    rw [p1 b, v1 3, hU.2.1 b]
    by_cases hb : b < T.2 0
    · simp [hb]
    · have : (trob T hm (T.2 1)).testBit b = false := by
        cases hq : (trob T hm (T.2 1)).testBit b
        · rfl
        · exact absurd (trob_bit hq) hb
      simp [this]
  have sj : ∀ j, j ≠ 3 → (tsteps T (trob T hm (T.2 1)) (T.2 0)).2 j = V.2 j := fun j hj => by rw [tsteps_2 hj, v1 j, hU.1 j hj]
  refine ⟨fun j hj => ?_, fun a j ha hj => ?_, fun t ht => ?_⟩
  · unfold tpass
    simp only [tSS]
    by_cases h4 : j = 4
    · subst h4
      rw [if_pos rfl, if_pos rfl, v1 4, hU.1 4 (by decide)]
    · rw [if_neg h4, if_neg h4]
      by_cases h3 : j = 3
      · subst h3; exact s3
      · exact sj j h3
  · have ha : a < T.2 0 := by
      have : (tSS V 4 (V.2 4 + 1)).2 0 = T.2 0 := by show V.2 0 = T.2 0; rw [v1 0, hU.1 0 (by decide)]
      rw [this] at ha; exact ha
    show (tsteps T (trob T hm (T.2 1)) (T.2 0)).1 j a = V.1 j a
    rw [p2 j a, if_pos ha, v2 j a]
    unfold tst1
    cases hR : (trob T hm (T.2 1)).testBit a
    · simp only [Bool.false_eq_true, if_false, true_and, ha]
      rw [hU.at hR]
      cases hs : (T.2 3).testBit a
      · simp
      · simp
    · simp only [if_true, hU.2.2 j a, hR, true_and]
      simp
  · have ht : t < T.2 1 := by
      have : (tSS V 4 (V.2 4 + 1)).2 1 = T.2 1 := by show V.2 1 = T.2 1; rw [v1 1, hU.1 1 (by decide)]
      rw [this] at ht; exact ht
    show (tsteps T (trob T hm (T.2 1)) (T.2 0)).1 4 t = V.1 4 t ∧ (tsteps T (trob T hm (T.2 1)) (T.2 0)).1 5 t = V.1 5 t
    have q : ∀ j, j ≠ 1 → j ≠ 2 → (tsteps T (trob T hm (T.2 1)) (T.2 0)).1 j t = V.1 j t := by
      intro j h1 h2
      rw [p2 j t, v2 j t, hU.hi h1 h2, if_neg (show ¬ (t < T.2 0 ∧ j = 2 ∧ _) from fun q => h2 q.2.1)]
      by_cases hb : t < T.2 0
      · rw [if_pos hb]
        unfold tst1
        split
        · rw [if_neg (by omega)]
        · split
          · rfl
          · first | rfl | rw [if_neg h2]
      · rw [if_neg hb]
    exact ⟨q 4 (by decide) (by decide), q 5 (by decide) (by decide)⟩

