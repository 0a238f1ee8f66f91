/-! ===== a board of the reference stands for a town ===== -/
def Rep (g : Nat → Nat) (T : xT) : Prop := (g 0 = T.2 4 ∧ g 1 = T.2 6 ∧ g 20 = T.2 2 ∧ g 21 = T.2 3 ∧ g 22 = T.2 5 ∧ g 23 = T.2 0 ∧ g 30 = T.2 1) ∧ (∀ a, a < T.2 0 → g (2 + a) = T.1 2 a ∧ g (8 + a) = T.1 1 a ∧ g (14 + a) = T.1 3 a ∧ g (24 + a) = T.1 0 a) ∧ (∀ t, t < T.2 1 → g (31 + t) = T.1 4 t ∧ g (35 + t) = T.1 5 t)
section REP
variable {g g' : Nat → Nat} {T T' : xT}
theorem Rep.nt (R : Rep g T) : g 0 = T.2 4 := R.1.1
theorem Rep.dr (R : Rep g T) : g 1 = T.2 6 := R.1.2.1
theorem Rep.sh (R : Rep g T) : g 20 = T.2 2 := R.1.2.2.1
theorem Rep.sw (R : Rep g T) : g 21 = T.2 3 := R.1.2.2.2.1
theorem Rep.ba (R : Rep g T) : g 22 = T.2 5 := R.1.2.2.2.2.1
theorem Rep.mn (R : Rep g T) : g 23 = T.2 0 := R.1.2.2.2.2.2.1
theorem Rep.th (R : Rep g T) : g 30 = T.2 1 := R.1.2.2.2.2.2.2
theorem Rep.de (R : Rep g T) {a : Nat} (ha : a < T.2 0) : g (2 + a) = T.1 2 a := (R.2.1 a ha).1
theorem Rep.so (R : Rep g T) {a : Nat} (ha : a < T.2 0) : g (8 + a) = T.1 1 a := (R.2.1 a ha).2.1
theorem Rep.ca (R : Rep g T) {a : Nat} (ha : a < T.2 0) : g (14 + a) = T.1 3 a := (R.2.1 a ha).2.2.1
theorem Rep.ki (R : Rep g T) {a : Nat} (ha : a < T.2 0) : g (24 + a) = T.1 0 a := (R.2.1 a ha).2.2.2
theorem Rep.sk (R : Rep g T) {t : Nat} (ht : t < T.2 1) : g (31 + t) = T.1 4 t := (R.2.2 t ht).1
theorem Rep.wa (R : Rep g T) {t : Nat} (ht : t < T.2 1) : g (35 + t) = T.1 5 t := (R.2.2 t ht).2
theorem Rep.cong (R : Rep g T) (h6 : T.2 0 ≤ 6) (h4 : T.2 1 ≤ 4) (he : ∀ i, i < 39 → g' i = g i) : Rep g' T := by
  obtain ⟨⟨r0, r1, r2, r3, r4, r5, r6⟩, rA, rT⟩ := R
  refine ⟨⟨?_, ?_, ?_, ?_, ?_, ?_, ?_⟩, fun a ha => ?_, fun t ht => ?_⟩
  · rw [he 0 (by decide), r0]
  · rw [he 1 (by decide), r1]
  · rw [he 20 (by decide), r2]
  · rw [he 21 (by decide), r3]
  · rw [he 22 (by decide), r4]
  · rw [he 23 (by decide), r5]
  · rw [he 30 (by decide), r6]
  · rw [he _ (by omega), he _ (by omega), he _ (by omega), he _ (by omega)]
    exact rA a ha
  · rw [he _ (by omega), he _ (by omega)]
    exact rT t ht
/-- two towns alike where they live -/
def tlk (T T' : xT) : Prop := (∀ j, j < 7 → T'.2 j = T.2 j) ∧ (∀ a j, a < T.2 0 → j < 4 → T'.1 j a = T.1 j a) ∧ (∀ t, t < T.2 1 → T'.1 4 t = T.1 4 t ∧ T'.1 5 t = T.1 5 t)
theorem Rep.like (R : Rep g T) (hl : tlk T T') : Rep g T' := by
  obtain ⟨⟨r0, r1, r2, r3, r4, r5, r6⟩, rA, rT⟩ := R
  obtain ⟨l1, l2, l3⟩ := hl
  refine ⟨⟨?_, ?_, ?_, ?_, ?_, ?_, ?_⟩, fun a ha => ?_, fun t ht => ?_⟩
  · rw [l1 4 (by decide), r0]
  · rw [l1 6 (by decide), r1]
  · rw [l1 2 (by decide), r2]
  · rw [l1 3 (by decide), r3]
  · rw [l1 5 (by decide), r4]
  · rw [l1 0 (by decide), r5]
  · rw [l1 1 (by decide), r6]
  · rw [l1 0 (by decide)] at ha
    rw [l2 a 2 ha (by decide), l2 a 1 ha (by decide), l2 a 3 ha (by decide), l2 a 0 ha (by decide)]
    exact rA a ha
  · rw [l1 1 (by decide)] at ht
    rw [(l3 t ht).1, (l3 t ht).2]
    exact rT t ht
theorem Rep.up2 (R : Rep g T) (h6 : T.2 0 ≤ 6) (h4 : T.2 1 ≤ 4) {a v : Nat} (ha : a < 6) : Rep (va_up g (2 + a) v) (tSA T 2 a v) := by
  obtain ⟨⟨r0, r1, r2, r3, r4, r5, r6⟩, rA, rT⟩ := R
  refine ⟨⟨?_, ?_, ?_, ?_, ?_, ?_, ?_⟩, fun b hb => ?_, fun t ht => ?_⟩
  · rw [va_up_ne _ _ (by omega)]; exact r0
  · rw [va_up_ne _ _ (by omega)]; exact r1
  · rw [va_up_ne _ _ (by omega)]; exact r2
  · rw [va_up_ne _ _ (by omega)]; exact r3
  · rw [va_up_ne _ _ (by omega)]; exact r4
  · rw [va_up_ne _ _ (by omega)]; exact r5
  · rw [va_up_ne _ _ (by omega)]; exact r6
  · have hb : b < T.2 0 := hb
    obtain ⟨q1, q2, q3, q4⟩ := rA b hb
    refine ⟨?_, ?_, ?_, ?_⟩
    · by_cases hc : b = a
      · subst hc; rw [va_up_self]; simp [tSA]
      · rw [va_up_ne _ _ (by omega), q1]; simp [tSA, hc]
    · rw [va_up_ne _ _ (by omega), q2]; simp [tSA]
    · rw [va_up_ne _ _ (by omega), q3]; simp [tSA]
    · rw [va_up_ne _ _ (by omega), q4]; simp [tSA]
  · have ht : t < T.2 1 := ht
    obtain ⟨q1, q2⟩ := rT t ht
    refine ⟨?_, ?_⟩
    · rw [va_up_ne _ _ (by omega), q1]; simp [tSA]
    · rw [va_up_ne _ _ (by omega), q2]; simp [tSA]
theorem Rep.up1 (R : Rep g T) (h6 : T.2 0 ≤ 6) (h4 : T.2 1 ≤ 4) {a v : Nat} (ha : a < 6) : Rep (va_up g (8 + a) v) (tSA T 1 a v) := by
  obtain ⟨⟨r0, r1, r2, r3, r4, r5, r6⟩, rA, rT⟩ := R
  refine ⟨⟨?_, ?_, ?_, ?_, ?_, ?_, ?_⟩, fun b hb => ?_, fun t ht => ?_⟩
  · rw [va_up_ne _ _ (by omega)]; exact r0
  · rw [va_up_ne _ _ (by omega)]; exact r1
  · rw [va_up_ne _ _ (by omega)]; exact r2
  · rw [va_up_ne _ _ (by omega)]; exact r3
  · rw [va_up_ne _ _ (by omega)]; exact r4
  · rw [va_up_ne _ _ (by omega)]; exact r5
  · rw [va_up_ne _ _ (by omega)]; exact r6
  · have hb : b < T.2 0 := hb
    obtain ⟨q1, q2, q3, q4⟩ := rA b hb
    refine ⟨?_, ?_, ?_, ?_⟩
    · rw [va_up_ne _ _ (by omega), q1]; simp [tSA]
    · by_cases hc : b = a
      · subst hc; rw [va_up_self]; simp [tSA]
      · rw [va_up_ne _ _ (by omega), q2]; simp [tSA, hc]
    · rw [va_up_ne _ _ (by omega), q3]; simp [tSA]
    · rw [va_up_ne _ _ (by omega), q4]; simp [tSA]
  · have ht : t < T.2 1 := ht
    obtain ⟨q1, q2⟩ := rT t ht
    refine ⟨?_, ?_⟩
    · rw [va_up_ne _ _ (by omega), q1]; simp [tSA]
    · rw [va_up_ne _ _ (by omega), q2]; simp [tSA]
theorem Rep.up3 (R : Rep g T) (h6 : T.2 0 ≤ 6) (h4 : T.2 1 ≤ 4) {a v : Nat} (ha : a < 6) : Rep (va_up g (14 + a) v) (tSA T 3 a v) := by
  obtain ⟨⟨r0, r1, r2, r3, r4, r5, r6⟩, rA, rT⟩ := R
  refine ⟨⟨?_, ?_, ?_, ?_, ?_, ?_, ?_⟩, fun b hb => ?_, fun t ht => ?_⟩
  · rw [va_up_ne _ _ (by omega)]; exact r0
  · rw [va_up_ne _ _ (by omega)]; exact r1
  · rw [va_up_ne _ _ (by omega)]; exact r2
  · rw [va_up_ne _ _ (by omega)]; exact r3
  · rw [va_up_ne _ _ (by omega)]; exact r4
  · rw [va_up_ne _ _ (by omega)]; exact r5
  · rw [va_up_ne _ _ (by omega)]; exact r6
  · have hb : b < T.2 0 := hb
    obtain ⟨q1, q2, q3, q4⟩ := rA b hb
    refine ⟨?_, ?_, ?_, ?_⟩
    · rw [va_up_ne _ _ (by omega), q1]; simp [tSA]
    · rw [va_up_ne _ _ (by omega), q2]; simp [tSA]
    · by_cases hc : b = a
      · subst hc; rw [va_up_self]; simp [tSA]
      · rw [va_up_ne _ _ (by omega), q3]; simp [tSA, hc]
    · rw [va_up_ne _ _ (by omega), q4]; simp [tSA]
  · have ht : t < T.2 1 := ht
    obtain ⟨q1, q2⟩ := rT t ht
    refine ⟨?_, ?_⟩
    · rw [va_up_ne _ _ (by omega), q1]; simp [tSA]
    · rw [va_up_ne _ _ (by omega), q2]; simp [tSA]
theorem Rep.up0 (R : Rep g T) (h6 : T.2 0 ≤ 6) (h4 : T.2 1 ≤ 4) {a v : Nat} (ha : a < 6) : Rep (va_up g (24 + a) v) (tSA T 0 a v) := by
  obtain ⟨⟨r0, r1, r2, r3, r4, r5, r6⟩, rA, rT⟩ := R
  refine ⟨⟨?_, ?_, ?_, ?_, ?_, ?_, ?_⟩, fun b hb => ?_, fun t ht => ?_⟩
  · rw [va_up_ne _ _ (by omega)]; exact r0
  · rw [va_up_ne _ _ (by omega)]; exact r1
  · rw [va_up_ne _ _ (by omega)]; exact r2
  · rw [va_up_ne _ _ (by omega)]; exact r3
  · rw [va_up_ne _ _ (by omega)]; exact r4
  · rw [va_up_ne _ _ (by omega)]; exact r5
  · rw [va_up_ne _ _ (by omega)]; exact r6
  · have hb : b < T.2 0 := hb
    obtain ⟨q1, q2, q3, q4⟩ := rA b hb
    refine ⟨?_, ?_, ?_, ?_⟩
    · rw [va_up_ne _ _ (by omega), q1]; simp [tSA]
    · rw [va_up_ne _ _ (by omega), q2]; simp [tSA]
    · rw [va_up_ne _ _ (by omega), q3]; simp [tSA]
    · by_cases hc : b = a
      · subst hc; rw [va_up_self]; simp [tSA]
      · rw [va_up_ne _ _ (by omega), q4]; simp [tSA, hc]
  · have ht : t < T.2 1 := ht
    obtain ⟨q1, q2⟩ := rT t ht
    refine ⟨?_, ?_⟩
    · rw [va_up_ne _ _ (by omega), q1]; simp [tSA]
    · rw [va_up_ne _ _ (by omega), q2]; simp [tSA]
theorem Rep.ups2 (R : Rep g T) (h6 : T.2 0 ≤ 6) (h4 : T.2 1 ≤ 4) {v : Nat} : Rep (va_up g 20 v) (tSS T 2 v) := by
  obtain ⟨⟨r0, r1, r2, r3, r4, r5, r6⟩, rA, rT⟩ := R
  refine ⟨⟨?_, ?_, ?_, ?_, ?_, ?_, ?_⟩, fun b hb => ?_, fun t ht => ?_⟩
  · rw [va_up_ne _ _ (by omega)]; exact r0
  · rw [va_up_ne _ _ (by omega)]; exact r1
  · rw [va_up_self]; rfl
  · rw [va_up_ne _ _ (by omega)]; exact r3
  · rw [va_up_ne _ _ (by omega)]; exact r4
  · rw [va_up_ne _ _ (by omega)]; exact r5
  · rw [va_up_ne _ _ (by omega)]; exact r6
  · have hb : b < T.2 0 := hb
    rw [va_up_ne _ _ (by omega), va_up_ne _ _ (by omega), va_up_ne _ _ (by omega), va_up_ne _ _ (by omega)]
    exact rA b hb
  · have ht : t < T.2 1 := ht
    rw [va_up_ne _ _ (by omega), va_up_ne _ _ (by omega)]
    exact rT t ht
theorem Rep.ups3 (R : Rep g T) (h6 : T.2 0 ≤ 6) (h4 : T.2 1 ≤ 4) {v : Nat} : Rep (va_up g 21 v) (tSS T 3 v) := by
  obtain ⟨⟨r0, r1, r2, r3, r4, r5, r6⟩, rA, rT⟩ := R
  refine ⟨⟨?_, ?_, ?_, ?_, ?_, ?_, ?_⟩, fun b hb => ?_, fun t ht => ?_⟩
  · rw [va_up_ne _ _ (by omega)]; exact r0
  · rw [va_up_ne _ _ (by omega)]; exact r1
  · rw [va_up_ne _ _ (by omega)]; exact r2
  · rw [va_up_self]; rfl
  · rw [va_up_ne _ _ (by omega)]; exact r4
  · rw [va_up_ne _ _ (by omega)]; exact r5
  · rw [va_up_ne _ _ (by omega)]; exact r6
  · have hb : b < T.2 0 := hb
    rw [va_up_ne _ _ (by omega), va_up_ne _ _ (by omega), va_up_ne _ _ (by omega), va_up_ne _ _ (by omega)]
    exact rA b hb
  · have ht : t < T.2 1 := ht
    rw [va_up_ne _ _ (by omega), va_up_ne _ _ (by omega)]
    exact rT t ht
theorem Rep.ups4 (R : Rep g T) (h6 : T.2 0 ≤ 6) (h4 : T.2 1 ≤ 4) {v : Nat} : Rep (va_up g 0 v) (tSS T 4 v) := by
  obtain ⟨⟨r0, r1, r2, r3, r4, r5, r6⟩, rA, rT⟩ := R
  refine ⟨⟨?_, ?_, ?_, ?_, ?_, ?_, ?_⟩, fun b hb => ?_, fun t ht => ?_⟩
  · rw [va_up_self]; rfl
  · rw [va_up_ne _ _ (by omega)]; exact r1
  · rw [va_up_ne _ _ (by omega)]; exact r2
  · rw [va_up_ne _ _ (by omega)]; exact r3
  · rw [va_up_ne _ _ (by omega)]; exact r4
  · rw [va_up_ne _ _ (by omega)]; exact r5
  · rw [va_up_ne _ _ (by omega)]; exact r6
  · have hb : b < T.2 0 := hb
    rw [va_up_ne _ _ (by omega), va_up_ne _ _ (by omega), va_up_ne _ _ (by omega), va_up_ne _ _ (by omega)]
    exact rA b hb
  · have ht : t < T.2 1 := ht
    rw [va_up_ne _ _ (by omega), va_up_ne _ _ (by omega)]
    exact rT t ht
theorem Rep.ups5 (R : Rep g T) (h6 : T.2 0 ≤ 6) (h4 : T.2 1 ≤ 4) {v : Nat} : Rep (va_up g 22 v) (tSS T 5 v) := by
  obtain ⟨⟨r0, r1, r2, r3, r4, r5, r6⟩, rA, rT⟩ := R
  refine ⟨⟨?_, ?_, ?_, ?_, ?_, ?_, ?_⟩, fun b hb => ?_, fun t ht => ?_⟩
  · rw [va_up_ne _ _ (by omega)]; exact r0
  · rw [va_up_ne _ _ (by omega)]; exact r1
  · rw [va_up_ne _ _ (by omega)]; exact r2
  · rw [va_up_ne _ _ (by omega)]; exact r3
  · rw [va_up_self]; rfl
  · rw [va_up_ne _ _ (by omega)]; exact r5
  · rw [va_up_ne _ _ (by omega)]; exact r6
  · have hb : b < T.2 0 := hb
    rw [va_up_ne _ _ (by omega), va_up_ne _ _ (by omega), va_up_ne _ _ (by omega), va_up_ne _ _ (by omega)]
    exact rA b hb
  · have ht : t < T.2 1 := ht
    rw [va_up_ne _ _ (by omega), va_up_ne _ _ (by omega)]
    exact rT t ht
theorem Rep.ups6 (R : Rep g T) (h6 : T.2 0 ≤ 6) (h4 : T.2 1 ≤ 4) {v : Nat} : Rep (va_up g 1 v) (tSS T 6 v) := by
  obtain ⟨⟨r0, r1, r2, r3, r4, r5, r6⟩, rA, rT⟩ := R
  refine ⟨⟨?_, ?_, ?_, ?_, ?_, ?_, ?_⟩, fun b hb => ?_, fun t ht => ?_⟩
  · rw [va_up_ne _ _ (by omega)]; exact r0
  · rw [va_up_self]; rfl
  · rw [va_up_ne _ _ (by omega)]; exact r2
  · rw [va_up_ne _ _ (by omega)]; exact r3
  · rw [va_up_ne _ _ (by omega)]; exact r4
  · rw [va_up_ne _ _ (by omega)]; exact r5
  · rw [va_up_ne _ _ (by omega)]; exact r6
  · have hb : b < T.2 0 := hb
    rw [va_up_ne _ _ (by omega), va_up_ne _ _ (by omega), va_up_ne _ _ (by omega), va_up_ne _ _ (by omega)]
    exact rA b hb
  · have ht : t < T.2 1 := ht
    rw [va_up_ne _ _ (by omega), va_up_ne _ _ (by omega)]
    exact rT t ht
theorem Rep.addA (R : Rep g T) (h6 : T.2 0 < 6) (h4 : T.2 1 ≤ 4) {k s c : Nat} : Rep (va_up (va_up (va_up (va_up (va_up (va_up g (24 + T.2 0) k) (8 + T.2 0) s) (14 + T.2 0) c) (2 + T.2 0) 0) 20 (T.2 2 ||| 2 ^ T.2 0)) 23 (T.2 0 + 1)) (taddA T k s c) := by
  obtain ⟨⟨r0, r1, r2, r3, r4, r5, r6⟩, rA, rT⟩ := R
  refine ⟨⟨?_, ?_, ?_, ?_, ?_, ?_, ?_⟩, fun b hb => ?_, fun t ht => ?_⟩
  · rw [va_up_ne _ _ (by omega), va_up_ne _ _ (by omega), va_up_ne _ _ (by omega), va_up_ne _ _ (by omega), va_up_ne _ _ (by omega), va_up_ne _ _ (by omega)]; exact r0
  · rw [va_up_ne _ _ (by omega), va_up_ne _ _ (by omega), va_up_ne _ _ (by omega), va_up_ne _ _ (by omega), va_up_ne _ _ (by omega), va_up_ne _ _ (by omega)]; exact r1
  · rw [va_up_ne _ _ (by omega), va_up_self]; rfl
  · rw [va_up_ne _ _ (by omega), va_up_ne _ _ (by omega), va_up_ne _ _ (by omega), va_up_ne _ _ (by omega), va_up_ne _ _ (by omega), va_up_ne _ _ (by omega)]; exact r3
  · rw [va_up_ne _ _ (by omega), va_up_ne _ _ (by omega), va_up_ne _ _ (by omega), va_up_ne _ _ (by omega), va_up_ne _ _ (by omega), va_up_ne _ _ (by omega)]; exact r4
  · rw [va_up_self]; rfl
  · rw [va_up_ne _ _ (by omega), va_up_ne _ _ (by omega), va_up_ne _ _ (by omega), va_up_ne _ _ (by omega), va_up_ne _ _ (by omega), va_up_ne _ _ (by omega)]; exact r6
  · have hb : b < T.2 0 + 1 := hb
    by_cases hc : b = T.2 0
    · subst hc
      refine ⟨?_, ?_, ?_, ?_⟩
      · rw [va_up_ne _ _ (by omega), va_up_ne _ _ (by omega), va_up_self]
        simp [taddA, tSA, tSS, tshow]
      · rw [va_up_ne _ _ (by omega), va_up_ne _ _ (by omega), va_up_ne _ _ (by omega), va_up_ne _ _ (by omega), va_up_self]
        simp [taddA, tSA, tSS, tshow]
      · rw [va_up_ne _ _ (by omega), va_up_ne _ _ (by omega), va_up_ne _ _ (by omega), va_up_self]
        simp [taddA, tSA, tSS, tshow]
      · rw [va_up_ne _ _ (by omega), va_up_ne _ _ (by omega), va_up_ne _ _ (by omega), va_up_ne _ _ (by omega), va_up_ne _ _ (by omega), va_up_self]
        simp [taddA, tSA, tSS, tshow]
    · obtain ⟨q1, q2, q3, q4⟩ := rA b (by omega)
      refine ⟨?_, ?_, ?_, ?_⟩
      · rw [va_up_ne _ _ (by omega), va_up_ne _ _ (by omega), va_up_ne _ _ (by omega), va_up_ne _ _ (by omega), va_up_ne _ _ (by omega), va_up_ne _ _ (by omega), q1]
        simp [taddA, tSA, tSS, tshow, hc]
      · rw [va_up_ne _ _ (by omega), va_up_ne _ _ (by omega), va_up_ne _ _ (by omega), va_up_ne _ _ (by omega), va_up_ne _ _ (by omega), va_up_ne _ _ (by omega), q2]
        simp [taddA, tSA, tSS, tshow, hc]
      · rw [va_up_ne _ _ (by omega), va_up_ne _ _ (by omega), va_up_ne _ _ (by omega), va_up_ne _ _ (by omega), va_up_ne _ _ (by omega), va_up_ne _ _ (by omega), q3]
        simp [taddA, tSA, tSS, tshow, hc]
      · rw [va_up_ne _ _ (by omega), va_up_ne _ _ (by omega), va_up_ne _ _ (by omega), va_up_ne _ _ (by omega), va_up_ne _ _ (by omega), va_up_ne _ _ (by omega), q4]
        simp [taddA, tSA, tSS, tshow, hc]
  · have ht : t < T.2 1 := ht
    obtain ⟨q1, q2⟩ := rT t ht
    refine ⟨?_, ?_⟩
    · rw [va_up_ne _ _ (by omega), va_up_ne _ _ (by omega), va_up_ne _ _ (by omega), va_up_ne _ _ (by omega), va_up_ne _ _ (by omega), va_up_ne _ _ (by omega), q1]
      simp [taddA, tSA, tSS, tshow]
    · rw [va_up_ne _ _ (by omega), va_up_ne _ _ (by omega), va_up_ne _ _ (by omega), va_up_ne _ _ (by omega), va_up_ne _ _ (by omega), va_up_ne _ _ (by omega), q2]
      simp [taddA, tSA, tSS, tshow]
theorem Rep.addT (R : Rep g T) (h6 : T.2 0 ≤ 6) (h4 : T.2 1 < 4) {k c : Nat} : Rep (va_up (va_up (va_up g (31 + T.2 1) k) (35 + T.2 1) c) 30 (T.2 1 + 1)) (taddT T k c) := by
  obtain ⟨⟨r0, r1, r2, r3, r4, r5, r6⟩, rA, rT⟩ := R
  refine ⟨⟨?_, ?_, ?_, ?_, ?_, ?_, ?_⟩, fun b hb => ?_, fun t ht => ?_⟩
  · rw [va_up_ne _ _ (by omega), va_up_ne _ _ (by omega), va_up_ne _ _ (by omega)]; exact r0
  · rw [va_up_ne _ _ (by omega), va_up_ne _ _ (by omega), va_up_ne _ _ (by omega)]; exact r1
  · rw [va_up_ne _ _ (by omega), va_up_ne _ _ (by omega), va_up_ne _ _ (by omega)]; exact r2
  · rw [va_up_ne _ _ (by omega), va_up_ne _ _ (by omega), va_up_ne _ _ (by omega)]; exact r3
  · rw [va_up_ne _ _ (by omega), va_up_ne _ _ (by omega), va_up_ne _ _ (by omega)]; exact r4
  · rw [va_up_ne _ _ (by omega), va_up_ne _ _ (by omega), va_up_ne _ _ (by omega)]; exact r5
  · rw [va_up_self]; rfl
  · have hb : b < T.2 0 := hb
    obtain ⟨q1, q2, q3, q4⟩ := rA b hb
    refine ⟨?_, ?_, ?_, ?_⟩
    · rw [va_up_ne _ _ (by omega), va_up_ne _ _ (by omega), va_up_ne _ _ (by omega), q1]; simp [taddT, tSA, tSS]
    · rw [va_up_ne _ _ (by omega), va_up_ne _ _ (by omega), va_up_ne _ _ (by omega), q2]; simp [taddT, tSA, tSS]
    · rw [va_up_ne _ _ (by omega), va_up_ne _ _ (by omega), va_up_ne _ _ (by omega), q3]; simp [taddT, tSA, tSS]
    · rw [va_up_ne _ _ (by omega), va_up_ne _ _ (by omega), va_up_ne _ _ (by omega), q4]; simp [taddT, tSA, tSS]
  · have ht : t < T.2 1 + 1 := ht
    by_cases hc : t = T.2 1
    · subst hc
      refine ⟨?_, ?_⟩
      · rw [va_up_ne _ _ (by omega), va_up_ne _ _ (by omega), va_up_self]; simp [taddT, tSA, tSS]
      · rw [va_up_ne _ _ (by omega), va_up_self]; simp [taddT, tSA, tSS]
    · obtain ⟨q1, q2⟩ := rT t (by omega)
      refine ⟨?_, ?_⟩
      · rw [va_up_ne _ _ (by omega), va_up_ne _ _ (by omega), va_up_ne _ _ (by omega), q1]; simp [taddT, tSA, tSS, hc]
      · rw [va_up_ne _ _ (by omega), va_up_ne _ _ (by omega), va_up_ne _ _ (by omega), q2]; simp [taddT, tSA, tSS, hc]
end REP
theorem in_lt {x : Int32} {n : Nat} (hn : n ≤ 6) : decide (nI 0 ≤ x ∧ x ≤ nI n - nI 1) = decide (0 ≤ x ∧ x < nI n) := by
  have h1 : nI n - nI 1 < nI n := by
    have hh : n = 0 ∨ n = 1 ∨ n = 2 ∨ n = 3 ∨ n = 4 ∨ n = 5 ∨ n = 6 := by omega
    rcases hh with h | h | h | h | h | h | h <;> subst h <;> decide
  have h2 : (nI n - nI 1).toInt = (n : Int) - 1 := by
    have hh : n = 0 ∨ n = 1 ∨ n = 2 ∨ n = 3 ∨ n = 4 ∨ n = 5 ∨ n = 6 := by omega
    rcases hh with h | h | h | h | h | h | h <;> subst h <;> decide
  have h3 : (nI n).toInt = (n : Int) := nI_toInt (by omega)
  have e : (x ≤ nI n - nI 1) ↔ (x < nI n) := by
    rw [Int32.le_iff_toInt_le, Int32.lt_iff_toInt_lt, h2, h3]
    omega
  have e0 : (nI 0 ≤ x ∧ x ≤ nI n - nI 1) ↔ (0 ≤ x ∧ x < nI n) := by rw [e]; exact Iff.rfl
  exact decide_eq_decide.mpr e0
set_option maxHeartbeats 4000000 in
set_option maxRecDepth 100000 in
theorem c_X6_isOne {E : xE} {h : xHp} {w : Nat} {D : xMd} {T : xT} (R : Rep (D.1 0) T) (hOK : tOK T) (x : Int32) : PMI E mX6_isOne [.ref w, .int x] (MH E h w D) (bI (decide (0 ≤ x ∧ x < nI (T.2 0)))) (MH E h w D) := by
  have hm6 := hOK.1.1
  have hm4 := hOK.1.2.1
  refine pm_of [some (.ref w), some (.int x)] (by decide +kernel) (Nat.le_of_ble_eq_true rfl) rfl ?_
  refine px_iload_n dX6_isOne_0 rfl ?_
  refine px_iconst (v := nI 0) dX6_isOne_1 (by decide) ?_
  refine px_aload_n dX6_isOne_2 rfl ?_
  refine px_get xk_X6 7 dX6_isOne_3 (Or.inl fl_X6_23) MH_obj (by decide) rfl ?_
  refine px_bipush (v := nI 23) dX6_isOne_6 (by decide) ?_
  refine px_bL rfl dX6_isOne_8 (by decide) (by omega) (R.mn) ?_
  refine px_iconst (v := nI 1) dX6_isOne_9 (by decide) ?_
  refine px_isub dX6_isOne_10 ?_
  refine px_si (c_X6_in x (nI 0) (nI (T.2 0) - nI 1)) mw_X6_in wt_X6_in (Or.inl ml_X6_38) dX6_isOne_11 (by decide) rfl rfl (Nat.le_of_ble_eq_true rfl) ⟨rfl, rfl⟩ ?_
  exact px_bret dX6_isOne_14 rfl rfl rfl (congrArg bI (in_lt (by omega))) ⟨rfl, rfl⟩
theorem c_m1_y {E : xE} {h : xHp} {w : Nat} {D : xMd} {T : xT} (R : Rep (D.1 0) T) (hOK : tOK T) {a : Nat} (ha : a < T.2 0) : PMI E mX6_isOne [.ref w, .int (nI a)] (MH E h w D) (bI true) (MH E h w D) := by
  have := c_X6_isOne (E := E) (h := h) (w := w) R hOK (nI a)
  have h9 : T.2 0 < 2 ^ 31 := hOK.lts (by decide)
  rw [decide_eq_true ⟨nI_pos' (by omega), nI_lt ha h9⟩] at this
  exact this
theorem c_m1_n {E : xE} {h : xHp} {w : Nat} {D : xMd} {T : xT} (R : Rep (D.1 0) T) (hOK : tOK T) {x : Int32} (hx : ¬ (0 ≤ x ∧ x < nI (T.2 0))) : PMI E mX6_isOne [.ref w, .int x] (MH E h w D) (bI false) (MH E h w D) := by
  have := c_X6_isOne (E := E) (h := h) (w := w) R hOK x
  rw [decide_eq_false hx] at this
  exact this
set_option maxHeartbeats 4000000 in
set_option maxRecDepth 100000 in
theorem c_X6_isThief {E : xE} {h : xHp} {w : Nat} {D : xMd} {T : xT} (R : Rep (D.1 0) T) (hOK : tOK T) (x : Int32) : PMI E mX6_isThief [.ref w, .int x] (MH E h w D) (bI (decide (0 ≤ x ∧ x < nI (T.2 1)))) (MH E h w D) := by
  have hm6 := hOK.1.1
  have hm4 := hOK.1.2.1
  refine pm_of [some (.ref w), some (.int x)] (by decide +kernel) (Nat.le_of_ble_eq_true rfl) rfl ?_
  refine px_iload_n dX6_isThief_0 rfl ?_
  refine px_iconst (v := nI 0) dX6_isThief_1 (by decide) ?_
  refine px_aload_n dX6_isThief_2 rfl ?_
  refine px_get xk_X6 7 dX6_isThief_3 (Or.inl fl_X6_23) MH_obj (by decide) rfl ?_
  refine px_bipush (v := nI 30) dX6_isThief_6 (by decide) ?_
  refine px_bL rfl dX6_isThief_8 (by decide) (by omega) (R.th) ?_
  refine px_iconst (v := nI 1) dX6_isThief_9 (by decide) ?_
  refine px_isub dX6_isThief_10 ?_
  refine px_si (c_X6_in x (nI 0) (nI (T.2 1) - nI 1)) mw_X6_in wt_X6_in (Or.inl ml_X6_38) dX6_isThief_11 (by decide) rfl rfl (Nat.le_of_ble_eq_true rfl) ⟨rfl, rfl⟩ ?_
  exact px_bret dX6_isThief_14 rfl rfl rfl (congrArg bI (in_lt (by omega))) ⟨rfl, rfl⟩
theorem c_m2_y {E : xE} {h : xHp} {w : Nat} {D : xMd} {T : xT} (R : Rep (D.1 0) T) (hOK : tOK T) {a : Nat} (ha : a < T.2 1) : PMI E mX6_isThief [.ref w, .int (nI a)] (MH E h w D) (bI true) (MH E h w D) := by
  have := c_X6_isThief (E := E) (h := h) (w := w) R hOK (nI a)
  have h9 : T.2 1 < 2 ^ 31 := hOK.lts (by decide)
  rw [decide_eq_true ⟨nI_pos' (by omega), nI_lt ha h9⟩] at this
  exact this
theorem c_m2_n {E : xE} {h : xHp} {w : Nat} {D : xMd} {T : xT} (R : Rep (D.1 0) T) (hOK : tOK T) {x : Int32} (hx : ¬ (0 ≤ x ∧ x < nI (T.2 1))) : PMI E mX6_isThief [.ref w, .int x] (MH E h w D) (bI false) (MH E h w D) := by
  have := c_X6_isThief (E := E) (h := h) (w := w) R hOK x
  rw [decide_eq_false hx] at this
  exact this
set_option maxHeartbeats 4000000 in
set_option maxRecDepth 100000 in
theorem c_X6_mayRob {E : xE} {h : xHp} {w : Nat} {D : xMd} {k : Nat} {g : Nat → Nat} {T : xT} (hk : k < 4) (hg : D.1 k = g) (R : Rep g T) (hOK : tOK T) (t a : Nat) (ht : t < T.2 1) (ha : a < T.2 0) : PMI E mX6_mayRob [.ref (w + 5 + k), .int (nI t), .int (nI a)] (MH E h w D) (bI (tmay T t a)) (MH E h w D) := by
  have hm6 := hOK.1.1
  have hm4 := hOK.1.2.1
  refine pm_of [some (.ref (w + 5 + k)), some (.int (nI t)), some (.int (nI a)), none] (by decide +kernel) (Nat.le_of_ble_eq_true rfl) rfl ?_
  refine px_aload_n dX6_mayRob_0 rfl ?_
  refine px_bipush (v := nI 20) dX6_mayRob_1 (by decide) ?_
  refine px_bL hg dX6_mayRob_3 hk (by omega) (R.sh) ?_
  refine px_iload_n dX6_mayRob_4 rfl ?_
  refine px_si (c_X6_has_n (T.2 2) a (by have := hOK.1.2.2.1; omega) (by omega)) mw_X6_has wt_X6_has (Or.inl ml_X6_50) dX6_mayRob_5 (by decide) rfl rfl (Nat.le_of_ble_eq_true rfl) ⟨rfl, rfl⟩ ?_
  refine px_if_eqB 41 dX6_mayRob_8 (by decide) (fun c8 => ?_) (fun c8 => ?_)
  · refine px_iconst (v := nI 0) dX6_mayRob_41 (by decide) ?_
    refine px_istn_3 dX6_mayRob_42 (by decide) rfl ?_
    refine px_iload_n dX6_mayRob_43 rfl ?_
    refine px_if_eq 76 dX6_mayRob_44 (by decide) (fun _ => ?_) (fun z => absurd z (by decide))
    refine px_iconst (v := nI 0) dX6_mayRob_76 (by decide) ?_
    have hm : tmay T t a = false := by first | (simp_all [tmay]; done) | (simp_all [tmay]; omega)
    exact px_bret (b := tmay T t a) dX6_mayRob_77 rfl rfl rfl (by rw [hm]; rfl) ⟨rfl, rfl⟩
  · refine px_aload_n dX6_mayRob_11 rfl ?_
    refine px_bipush (v := nI 21) dX6_mayRob_12 (by decide) ?_
    refine px_bL hg dX6_mayRob_14 hk (by omega) (R.sw) ?_
    refine px_iload_n dX6_mayRob_15 rfl ?_
    refine px_si (c_X6_has_n (T.2 3) a (by have := hOK.1.2.2.2.1; omega) (by omega)) mw_X6_has wt_X6_has (Or.inl ml_X6_50) dX6_mayRob_16 (by decide) rfl rfl (Nat.le_of_ble_eq_true rfl) ⟨rfl, rfl⟩ ?_
    refine px_if_neB 41 dX6_mayRob_19 (by decide) (fun c19 => ?_) (fun c19 => ?_)
    · refine px_iconst (v := nI 0) dX6_mayRob_41 (by decide) ?_
      refine px_istn_3 dX6_mayRob_42 (by decide) rfl ?_
      refine px_iload_n dX6_mayRob_43 rfl ?_
      refine px_if_eq 76 dX6_mayRob_44 (by decide) (fun _ => ?_) (fun z => absurd z (by decide))
      refine px_iconst (v := nI 0) dX6_mayRob_76 (by decide) ?_
      have hm : tmay T t a = false := by first | (simp_all [tmay]; done) | (simp_all [tmay]; omega)
      exact px_bret (b := tmay T t a) dX6_mayRob_77 rfl rfl rfl (by rw [hm]; rfl) ⟨rfl, rfl⟩
    · refine px_aload_n dX6_mayRob_22 rfl ?_
      refine px_bipush (v := nI 14) dX6_mayRob_23 (by decide) ?_
      refine px_iload_n dX6_mayRob_25 rfl ?_
      refine px_iaddN dX6_mayRob_26 ?_
      refine px_bL hg dX6_mayRob_27 hk (by omega) (R.ca ha) ?_
      refine px_aload_n dX6_mayRob_28 rfl ?_
      refine px_bipush (v := nI 31) dX6_mayRob_29 (by decide) ?_
      refine px_iload_n dX6_mayRob_31 rfl ?_
      refine px_iaddN dX6_mayRob_32 ?_
      refine px_bL hg dX6_mayRob_33 hk (by omega) (R.sk ht) ?_
      refine px_icmp_gtN 41 dX6_mayRob_34 (by decide) (by first | omega | exact hOK.lt (by decide) | exact hOK.lts (by decide)) (by first | omega | exact hOK.lt (by decide) | exact hOK.lts (by decide)) (fun c34 => ?_) (fun c34 => ?_)
      · refine px_iconst (v := nI 0) dX6_mayRob_41 (by decide) ?_
        refine px_istn_3 dX6_mayRob_42 (by decide) rfl ?_
        refine px_iload_n dX6_mayRob_43 rfl ?_
        refine px_if_eq 76 dX6_mayRob_44 (by decide) (fun _ => ?_) (fun z => absurd z (by decide))
        refine px_iconst (v := nI 0) dX6_mayRob_76 (by decide) ?_
        have hm : tmay T t a = false := by first | (simp_all [tmay]; done) | (simp_all [tmay]; omega)
        exact px_bret (b := tmay T t a) dX6_mayRob_77 rfl rfl rfl (by rw [hm]; rfl) ⟨rfl, rfl⟩
      · refine px_iconst (v := nI 1) dX6_mayRob_37 (by decide) ?_
        refine px_goto 42 dX6_mayRob_38 (by decide) ?_
        refine px_istn_3 dX6_mayRob_42 (by decide) rfl ?_
        refine px_iload_n dX6_mayRob_43 rfl ?_
        refine px_if_eq 76 dX6_mayRob_44 (by decide) (fun z => absurd z (by decide)) (fun _ => ?_)
        refine px_aload_n dX6_mayRob_47 rfl ?_
        refine px_bipush (v := nI 35) dX6_mayRob_48 (by decide) ?_
        refine px_iload_n dX6_mayRob_50 rfl ?_
        refine px_iaddN dX6_mayRob_51 ?_
        refine px_bL hg dX6_mayRob_52 hk (by omega) (R.wa ht) ?_
        refine px_iconst (v := nI 4) dX6_mayRob_53 (by decide) ?_
        refine px_icmp_eqN 72 dX6_mayRob_54 (by decide) (by first | omega | exact hOK.lt (by decide) | exact hOK.lts (by decide)) (by first | omega | exact hOK.lt (by decide) | exact hOK.lts (by decide)) (fun c54 => ?_) (fun c54 => ?_)
        · refine px_iconst (v := nI 1) dX6_mayRob_72 (by decide) ?_
          refine px_goto 77 dX6_mayRob_73 (by decide) ?_
          have hm : tmay T t a = true := by first | (simp_all [tmay]; done) | (simp_all [tmay]; omega)
          exact px_bret (b := tmay T t a) dX6_mayRob_77 rfl rfl rfl (by rw [hm]; rfl) ⟨rfl, rfl⟩
        · refine px_aload_n dX6_mayRob_57 rfl ?_
          refine px_bipush (v := nI 35) dX6_mayRob_58 (by decide) ?_
          refine px_iload_n dX6_mayRob_60 rfl ?_
          refine px_iaddN dX6_mayRob_61 ?_
          refine px_bL hg dX6_mayRob_62 hk (by omega) (R.wa ht) ?_
          refine px_aload_n dX6_mayRob_63 rfl ?_
          refine px_bipush (v := nI 8) dX6_mayRob_64 (by decide) ?_
          refine px_iload_n dX6_mayRob_66 rfl ?_
          refine px_iaddN dX6_mayRob_67 ?_
          refine px_bL hg dX6_mayRob_68 hk (by omega) (R.so ha) ?_
          refine px_icmp_neN 76 dX6_mayRob_69 (by decide) (by first | omega | exact hOK.lt (by decide) | exact hOK.lts (by decide)) (by first | omega | exact hOK.lt (by decide) | exact hOK.lts (by decide)) (fun c69 => ?_) (fun c69 => ?_)
          · refine px_iconst (v := nI 0) dX6_mayRob_76 (by decide) ?_
            have hm : tmay T t a = false := by first | (simp_all [tmay]; done) | (simp_all [tmay]; omega)
            exact px_bret (b := tmay T t a) dX6_mayRob_77 rfl rfl rfl (by rw [hm]; rfl) ⟨rfl, rfl⟩
          · refine px_iconst (v := nI 1) dX6_mayRob_72 (by decide) ?_
            refine px_goto 77 dX6_mayRob_73 (by decide) ?_
            have hm : tmay T t a = true := by first | (simp_all [tmay]; done) | (simp_all [tmay]; omega)
            exact px_bret (b := tmay T t a) dX6_mayRob_77 rfl rfl rfl (by rw [hm]; rfl) ⟨rfl, rfl⟩
set_option maxHeartbeats 4000000 in
set_option maxRecDepth 100000 in
theorem l_X6_preyOf {E : xE} {h : xHp} {w : Nat} {D : xMd} {T : xT} (R : Rep (D.1 0) T) (hOK : tOK T) (u : Nat) (hu : u < T.2 1) : ∀ (n i : Nat), i ≤ T.2 0 → T.2 0 + 1 ≤ i + n → PW E mX6_preyOf (fun v h1 => v = some (.int (nI (twhom T u (T.2 0)))) ∧ h1 = MH E h w D) 0 0 4 [some (.ref w), some (.int (nI u)), some (.int (nI (twhom T u i))), some (.int (nI i))] [] (MH E h w D) := by
  have hm6 := hOK.1.1
  have hm4 := hOK.1.2.1
  intro n
  induction n with
  | zero =>
    intro i h1 h2
    omega
  | succ n ih =>
    intro i h1 h2
    refine px_iload_n dX6_preyOf_4 rfl ?_
    refine px_aload_n dX6_preyOf_5 rfl ?_
    refine px_get xk_X6 7 dX6_preyOf_6 (Or.inl fl_X6_23) MH_obj (by decide) rfl ?_
    refine px_bipush (v := nI 23) dX6_preyOf_9 (by decide) ?_
    refine px_bL rfl dX6_preyOf_11 (by decide) (by omega) (R.mn) ?_
    refine px_icmp_geN 43 dX6_preyOf_12 (by decide) (by first | omega | exact hOK.lt (by decide) | exact hOK.lts (by decide)) (by first | omega | exact hOK.lt (by decide) | exact hOK.lts (by decide)) (fun c12 => ?_) (fun c12 => ?_)
    · refine px_iload_n dX6_preyOf_43 rfl ?_
      have hi : i = T.2 0 := by omega
      subst hi
      exact px_iret dX6_preyOf_44 rfl rfl rfl ⟨rfl, rfl⟩
    · refine px_iload_n dX6_preyOf_15 rfl ?_
      refine px_aload_n dX6_preyOf_16 rfl ?_
      refine px_get xk_X6 7 dX6_preyOf_17 (Or.inl fl_X6_23) MH_obj (by decide) rfl ?_
      refine px_iload_n dX6_preyOf_20 rfl ?_
      refine px_iload_n dX6_preyOf_21 rfl ?_
      refine px_si (c_X6_mayRob (k := 0) (by decide) rfl R hOK u i hu (by omega)) mw_X6_mayRob wt_X6_mayRob (Or.inl ml_X6_54) dX6_preyOf_22 (by decide) rfl rfl (Nat.le_of_ble_eq_true rfl) ⟨rfl, rfl⟩ ?_
      refine px_if_eqB 34 dX6_preyOf_25 (by decide) (fun c25 => ?_) (fun c25 => ?_)
      · refine px_iconst (v := nI 0) dX6_preyOf_34 (by decide) ?_
        refine px_iorN dX6_preyOf_35 ?_
        refine px_istn_2 dX6_preyOf_36 (by decide) rfl ?_
        refine px_inc_3 dX6_preyOf_37 rfl (nI_1 _) (by decide) rfl ?_
        refine px_goto 4 dX6_preyOf_40 (by decide) ?_
        refine px_eq (lo2 := [some (.ref w), some (.int (nI u)), some (.int (nI (twhom T u (i + 1)))), some (.int (nI (i + 1)))]) ?_ rfl rfl (ih (i + 1) (by omega) (by omega))
        rw [twhom, c25]
        rw [Nat.or_zero]
        rfl
      · refine px_iconst (v := nI 1) dX6_preyOf_28 (by decide) ?_
        refine px_iload_n dX6_preyOf_29 rfl ?_
        refine px_ishl1 dX6_preyOf_30 (by omega) ?_
        refine px_goto 35 dX6_preyOf_31 (by decide) ?_
        refine px_iorN dX6_preyOf_35 ?_
        refine px_istn_2 dX6_preyOf_36 (by decide) rfl ?_
        refine px_inc_3 dX6_preyOf_37 rfl (nI_1 _) (by decide) rfl ?_
        refine px_goto 4 dX6_preyOf_40 (by decide) ?_
        refine px_eq (lo2 := [some (.ref w), some (.int (nI u)), some (.int (nI (twhom T u (i + 1)))), some (.int (nI (i + 1)))]) ?_ rfl rfl (ih (i + 1) (by omega) (by omega))
        rw [twhom, c25]
        rfl
set_option maxHeartbeats 4000000 in
set_option maxRecDepth 100000 in
theorem c_X6_preyOf {E : xE} {h : xHp} {w : Nat} {D : xMd} {T : xT} (R : Rep (D.1 0) T) (hOK : tOK T) (u : Nat) (hu : u < T.2 1) : PMI E mX6_preyOf [.ref w, .int (nI u)] (MH E h w D) (nI (twhom T u (T.2 0))) (MH E h w D) := by
  refine pm_of [some (.ref w), some (.int (nI u)), none, none] (by decide +kernel) (Nat.le_of_ble_eq_true rfl) rfl ?_
  refine px_iconst (v := nI 0) dX6_preyOf_0 (by decide) ?_
  refine px_istn_2 dX6_preyOf_1 (by decide) rfl ?_
  refine px_iconst (v := nI 0) dX6_preyOf_2 (by decide) ?_
  refine px_istn_3 dX6_preyOf_3 (by decide) rfl ?_
  exact l_X6_preyOf R hOK u hu (T.2 0 + 1) 0 (Nat.zero_le _) (by omega)
set_option maxHeartbeats 4000000 in
set_option maxRecDepth 100000 in
theorem l_X6_robbersOf {E : xE} {h : xHp} {w : Nat} {D : xMd} {T : xT} (R : Rep (D.1 0) T) (hOK : tOK T) (u : Nat) (hu : u < T.2 0) : ∀ (n i : Nat), i ≤ T.2 1 → T.2 1 + 1 ≤ i + n → PW E mX6_robbersOf (fun v h1 => v = some (.int (nI (twho T u (T.2 1)))) ∧ h1 = MH E h w D) 0 0 4 [some (.ref w), some (.int (nI u)), some (.int (nI (twho T u i))), some (.int (nI i))] [] (MH E h w D) := by
  have hm6 := hOK.1.1
  have hm4 := hOK.1.2.1
  intro n
  induction n with
  | zero =>
    intro i h1 h2
    omega
  | succ n ih =>
    intro i h1 h2
    refine px_iload_n dX6_robbersOf_4 rfl ?_
    refine px_aload_n dX6_robbersOf_5 rfl ?_
    refine px_get xk_X6 7 dX6_robbersOf_6 (Or.inl fl_X6_23) MH_obj (by decide) rfl ?_
    refine px_bipush (v := nI 30) dX6_robbersOf_9 (by decide) ?_
    refine px_bL rfl dX6_robbersOf_11 (by decide) (by omega) (R.th) ?_
    refine px_icmp_geN 43 dX6_robbersOf_12 (by decide) (by first | omega | exact hOK.lt (by decide) | exact hOK.lts (by decide)) (by first | omega | exact hOK.lt (by decide) | exact hOK.lts (by decide)) (fun c12 => ?_) (fun c12 => ?_)
    · refine px_iload_n dX6_robbersOf_43 rfl ?_
      have hi : i = T.2 1 := by omega
      subst hi
      exact px_iret dX6_robbersOf_44 rfl rfl rfl ⟨rfl, rfl⟩
    · refine px_iload_n dX6_robbersOf_15 rfl ?_
      refine px_aload_n dX6_robbersOf_16 rfl ?_
      refine px_get xk_X6 7 dX6_robbersOf_17 (Or.inl fl_X6_23) MH_obj (by decide) rfl ?_
      refine px_iload_n dX6_robbersOf_20 rfl ?_
      refine px_iload_n dX6_robbersOf_21 rfl ?_
      refine px_si (c_X6_mayRob (k := 0) (by decide) rfl R hOK i u (by omega) hu) mw_X6_mayRob wt_X6_mayRob (Or.inl ml_X6_54) dX6_robbersOf_22 (by decide) rfl rfl (Nat.le_of_ble_eq_true rfl) ⟨rfl, rfl⟩ ?_
      refine px_if_eqB 34 dX6_robbersOf_25 (by decide) (fun c25 => ?_) (fun c25 => ?_)
      · refine px_iconst (v := nI 0) dX6_robbersOf_34 (by decide) ?_
        refine px_iorN dX6_robbersOf_35 ?_
        refine px_istn_2 dX6_robbersOf_36 (by decide) rfl ?_
        refine px_inc_3 dX6_robbersOf_37 rfl (nI_1 _) (by decide) rfl ?_
        refine px_goto 4 dX6_robbersOf_40 (by decide) ?_
        refine px_eq (lo2 := [some (.ref w), some (.int (nI u)), some (.int (nI (twho T u (i + 1)))), some (.int (nI (i + 1)))]) ?_ rfl rfl (ih (i + 1) (by omega) (by omega))
        rw [twho, c25]
        rw [Nat.or_zero]
        rfl
      · refine px_iconst (v := nI 1) dX6_robbersOf_28 (by decide) ?_
        refine px_iload_n dX6_robbersOf_29 rfl ?_
        refine px_ishl1 dX6_robbersOf_30 (by omega) ?_
        refine px_goto 35 dX6_robbersOf_31 (by decide) ?_
        refine px_iorN dX6_robbersOf_35 ?_
        refine px_istn_2 dX6_robbersOf_36 (by decide) rfl ?_
        refine px_inc_3 dX6_robbersOf_37 rfl (nI_1 _) (by decide) rfl ?_
        refine px_goto 4 dX6_robbersOf_40 (by decide) ?_
        refine px_eq (lo2 := [some (.ref w), some (.int (nI u)), some (.int (nI (twho T u (i + 1)))), some (.int (nI (i + 1)))]) ?_ rfl rfl (ih (i + 1) (by omega) (by omega))
        rw [twho, c25]
        rfl
set_option maxHeartbeats 4000000 in
set_option maxRecDepth 100000 in
theorem c_X6_robbersOf {E : xE} {h : xHp} {w : Nat} {D : xMd} {T : xT} (R : Rep (D.1 0) T) (hOK : tOK T) (u : Nat) (hu : u < T.2 0) : PMI E mX6_robbersOf [.ref w, .int (nI u)] (MH E h w D) (nI (twho T u (T.2 1))) (MH E h w D) := by
  refine pm_of [some (.ref w), some (.int (nI u)), none, none] (by decide +kernel) (Nat.le_of_ble_eq_true rfl) rfl ?_
  refine px_iconst (v := nI 0) dX6_robbersOf_0 (by decide) ?_
  refine px_istn_2 dX6_robbersOf_1 (by decide) rfl ?_
  refine px_iconst (v := nI 0) dX6_robbersOf_2 (by decide) ?_
  refine px_istn_3 dX6_robbersOf_3 (by decide) rfl ?_
  exact l_X6_robbersOf R hOK u hu (T.2 1 + 1) 0 (Nat.zero_le _) (by omega)
theorem nI_m4 {b : Nat} (hb : b < 2 ^ 31) : nI b ≠ -4 := fun q => absurd (q ▸ nI_pos' hb : (0 : Int32) ≤ -4) (by decide)
set_option maxHeartbeats 4000000 in
set_option maxRecDepth 100000 in
theorem l_X6_dearest {E : xE} {h : xHp} {w : Nat} {D : xMd} {k : Nat} {g : Nat → Nat} {T : xT} (hk : k < 4) (hg : D.1 k = g) (R : Rep g T) (hOK : tOK T) (t rob : Nat) (ht : t < T.2 1) (hr : rob < 64) : ∀ (n i : Nat), i ≤ T.2 0 → T.2 0 + 1 ≤ i + n → PW E mX6_dearest (fun v h1 => v = some (.int (oI (tvic T t rob (T.2 0)))) ∧ h1 = MH E h w D) 0 0 6 [some (.ref (w + 5 + k)), some (.int (nI t)), some (.int (nI rob)), some (.int (oI (tvic T t rob i))), some (.int (nI i)), none] [] (MH E h w D) := by
  have hm6 := hOK.1.1
  have hm4 := hOK.1.2.1
  intro n
  induction n with
  | zero =>
    intro i h1 h2
    omega
  | succ n ih =>
    intro i h1 h2
    rcases hv : tvic T t rob i with _ | bb
    · refine px_eq (lo2 := [some (.ref (w + 5 + k)), some (.int (nI t)), some (.int (nI rob)), some (.int (-4)), some (.int (nI i)), none]) rfl rfl rfl ?_
      refine px_iload dX6_dearest_6 rfl ?_
      refine px_aload_n dX6_dearest_8 rfl ?_
      refine px_bipush (v := nI 23) dX6_dearest_9 (by decide) ?_
      refine px_bL hg dX6_dearest_11 hk (by omega) (R.mn) ?_
      refine px_icmp_geN 79 dX6_dearest_12 (by decide) (by first | omega | exact hOK.lt (by decide) | exact hOK.lts (by decide)) (by first | omega | exact hOK.lt (by decide) | exact hOK.lts (by decide)) (fun c12 => ?_) (fun c12 => ?_)
      · refine px_iload_n dX6_dearest_79 rfl ?_
        have hi : i = T.2 0 := by omega
        subst hi
        exact px_iret dX6_dearest_80 rfl rfl rfl ⟨by rw [hv]; rfl, rfl⟩
      · refine px_aload_n dX6_dearest_15 rfl ?_
        refine px_iload_n dX6_dearest_16 rfl ?_
        refine px_iload dX6_dearest_17 rfl ?_
        refine px_si (c_X6_mayRob hk hg R hOK t i ht c12) mw_X6_mayRob wt_X6_mayRob (Or.inl ml_X6_54) dX6_dearest_19 (by decide) rfl rfl (Nat.le_of_ble_eq_true rfl) ⟨rfl, rfl⟩ ?_
        refine px_if_eqB 38 dX6_dearest_22 (by decide) (fun c22 => ?_) (fun c22 => ?_)
        · refine px_iconst (v := nI 0) dX6_dearest_38 (by decide) ?_
          refine px_ist_5 dX6_dearest_39 (by decide) rfl ?_
          refine px_iload dX6_dearest_41 rfl ?_
          refine px_if_eq 71 dX6_dearest_43 (by decide) (fun _ => ?_) (fun z => absurd z (by decide))
          refine px_iload_n dX6_dearest_71 rfl ?_
          refine px_istn_3 dX6_dearest_72 (by decide) rfl ?_
          refine px_inc_4 dX6_dearest_73 rfl (nI_1 _) (by decide) rfl ?_
          refine px_goto 6 dX6_dearest_76 (by decide) ?_
          refine px_fg_5 ?_
          refine px_eq (lo2 := [some (.ref (w + 5 + k)), some (.int (nI t)), some (.int (nI rob)), some (.int (oI (tvic T t rob (i + 1)))), some (.int (nI (i + 1))), none]) ?_ rfl rfl (ih (i + 1) (by omega) (by omega))
          rw [tvic_no (Or.inr (Or.inl c22)), hv]
          rfl
        · refine px_iload_n dX6_dearest_25 rfl ?_
          refine px_iload dX6_dearest_26 rfl ?_
          refine px_si (c_X6_has_n rob i (by omega) (by omega)) mw_X6_has wt_X6_has (Or.inl ml_X6_50) dX6_dearest_28 (by decide) rfl rfl (Nat.le_of_ble_eq_true rfl) ⟨rfl, rfl⟩ ?_
          refine px_if_neB 38 dX6_dearest_31 (by decide) (fun c31 => ?_) (fun c31 => ?_)
          · refine px_iconst (v := nI 0) dX6_dearest_38 (by decide) ?_
            refine px_ist_5 dX6_dearest_39 (by decide) rfl ?_
            refine px_iload dX6_dearest_41 rfl ?_
            refine px_if_eq 71 dX6_dearest_43 (by decide) (fun _ => ?_) (fun z => absurd z (by decide))
            refine px_iload_n dX6_dearest_71 rfl ?_
            refine px_istn_3 dX6_dearest_72 (by decide) rfl ?_
            refine px_inc_4 dX6_dearest_73 rfl (nI_1 _) (by decide) rfl ?_
            refine px_goto 6 dX6_dearest_76 (by decide) ?_
            refine px_fg_5 ?_
            refine px_eq (lo2 := [some (.ref (w + 5 + k)), some (.int (nI t)), some (.int (nI rob)), some (.int (oI (tvic T t rob (i + 1)))), some (.int (nI (i + 1))), none]) ?_ rfl rfl (ih (i + 1) (by omega) (by omega))
            rw [tvic_no (Or.inl c31), hv]
            rfl
          · refine px_iconst (v := nI 1) dX6_dearest_34 (by decide) ?_
            refine px_goto 39 dX6_dearest_35 (by decide) ?_
            refine px_ist_5 dX6_dearest_39 (by decide) rfl ?_
            refine px_iload dX6_dearest_41 rfl ?_
            refine px_if_eq 71 dX6_dearest_43 (by decide) (fun z => absurd z (by decide)) (fun _ => ?_)
            refine px_iload_n dX6_dearest_46 rfl ?_
            refine px_bipush (v := -4) dX6_dearest_47 (by decide) ?_
            refine px_icmp_eq 66 dX6_dearest_49 (by decide) (fun _ => ?_) (fun z => absurd z (by decide))
            refine px_iload dX6_dearest_66 rfl ?_
            refine px_goto 72 dX6_dearest_68 (by decide) ?_
            refine px_istn_3 dX6_dearest_72 (by decide) rfl ?_
            refine px_inc_4 dX6_dearest_73 rfl (nI_1 _) (by decide) rfl ?_
            refine px_goto 6 dX6_dearest_76 (by decide) ?_
            refine px_fg_5 ?_
            refine px_eq (lo2 := [some (.ref (w + 5 + k)), some (.int (nI t)), some (.int (nI rob)), some (.int (oI (tvic T t rob (i + 1)))), some (.int (nI (i + 1))), none]) ?_ rfl rfl (ih (i + 1) (by omega) (by omega))
            rw [tvic_yes c31 c22 (Or.inl hv)]
            rfl
    · have hbb := tvic_lt hv
      refine px_eq (lo2 := [some (.ref (w + 5 + k)), some (.int (nI t)), some (.int (nI rob)), some (.int (nI bb)), some (.int (nI i)), none]) rfl rfl rfl ?_
      refine px_iload dX6_dearest_6 rfl ?_
      refine px_aload_n dX6_dearest_8 rfl ?_
      refine px_bipush (v := nI 23) dX6_dearest_9 (by decide) ?_
      refine px_bL hg dX6_dearest_11 hk (by omega) (R.mn) ?_
      refine px_icmp_geN 79 dX6_dearest_12 (by decide) (by first | omega | exact hOK.lt (by decide) | exact hOK.lts (by decide)) (by first | omega | exact hOK.lt (by decide) | exact hOK.lts (by decide)) (fun c12 => ?_) (fun c12 => ?_)
      · refine px_iload_n dX6_dearest_79 rfl ?_
        have hi : i = T.2 0 := by omega
        subst hi
        exact px_iret dX6_dearest_80 rfl rfl rfl ⟨by rw [hv]; rfl, rfl⟩
      · refine px_aload_n dX6_dearest_15 rfl ?_
        refine px_iload_n dX6_dearest_16 rfl ?_
        refine px_iload dX6_dearest_17 rfl ?_
        refine px_si (c_X6_mayRob hk hg R hOK t i ht c12) mw_X6_mayRob wt_X6_mayRob (Or.inl ml_X6_54) dX6_dearest_19 (by decide) rfl rfl (Nat.le_of_ble_eq_true rfl) ⟨rfl, rfl⟩ ?_
        refine px_if_eqB 38 dX6_dearest_22 (by decide) (fun c22 => ?_) (fun c22 => ?_)
        · refine px_iconst (v := nI 0) dX6_dearest_38 (by decide) ?_
          refine px_ist_5 dX6_dearest_39 (by decide) rfl ?_
          refine px_iload dX6_dearest_41 rfl ?_
          refine px_if_eq 71 dX6_dearest_43 (by decide) (fun _ => ?_) (fun z => absurd z (by decide))
          refine px_iload_n dX6_dearest_71 rfl ?_
          refine px_istn_3 dX6_dearest_72 (by decide) rfl ?_
          refine px_inc_4 dX6_dearest_73 rfl (nI_1 _) (by decide) rfl ?_
          refine px_goto 6 dX6_dearest_76 (by decide) ?_
          refine px_fg_5 ?_
          refine px_eq (lo2 := [some (.ref (w + 5 + k)), some (.int (nI t)), some (.int (nI rob)), some (.int (oI (tvic T t rob (i + 1)))), some (.int (nI (i + 1))), none]) ?_ rfl rfl (ih (i + 1) (by omega) (by omega))
          rw [tvic_no (Or.inr (Or.inl c22)), hv]
          rfl
        · refine px_iload_n dX6_dearest_25 rfl ?_
          refine px_iload dX6_dearest_26 rfl ?_
          refine px_si (c_X6_has_n rob i (by omega) (by omega)) mw_X6_has wt_X6_has (Or.inl ml_X6_50) dX6_dearest_28 (by decide) rfl rfl (Nat.le_of_ble_eq_true rfl) ⟨rfl, rfl⟩ ?_
          refine px_if_neB 38 dX6_dearest_31 (by decide) (fun c31 => ?_) (fun c31 => ?_)
          · refine px_iconst (v := nI 0) dX6_dearest_38 (by decide) ?_
            refine px_ist_5 dX6_dearest_39 (by decide) rfl ?_
            refine px_iload dX6_dearest_41 rfl ?_
            refine px_if_eq 71 dX6_dearest_43 (by decide) (fun _ => ?_) (fun z => absurd z (by decide))
            refine px_iload_n dX6_dearest_71 rfl ?_
            refine px_istn_3 dX6_dearest_72 (by decide) rfl ?_
            refine px_inc_4 dX6_dearest_73 rfl (nI_1 _) (by decide) rfl ?_
            refine px_goto 6 dX6_dearest_76 (by decide) ?_
            refine px_fg_5 ?_
            refine px_eq (lo2 := [some (.ref (w + 5 + k)), some (.int (nI t)), some (.int (nI rob)), some (.int (oI (tvic T t rob (i + 1)))), some (.int (nI (i + 1))), none]) ?_ rfl rfl (ih (i + 1) (by omega) (by omega))
            rw [tvic_no (Or.inl c31), hv]
            rfl
          · refine px_iconst (v := nI 1) dX6_dearest_34 (by decide) ?_
            refine px_goto 39 dX6_dearest_35 (by decide) ?_
            refine px_ist_5 dX6_dearest_39 (by decide) rfl ?_
            refine px_iload dX6_dearest_41 rfl ?_
            refine px_if_eq 71 dX6_dearest_43 (by decide) (fun z => absurd z (by decide)) (fun _ => ?_)
            refine px_iload_n dX6_dearest_46 rfl ?_
            refine px_bipush (v := -4) dX6_dearest_47 (by decide) ?_
            refine px_icmp_eq 66 dX6_dearest_49 (by decide) (fun c49 => ?_) (fun c49 => ?_)
            · exact absurd c49 (nI_m4 (by omega))
            · refine px_aload_n dX6_dearest_52 rfl ?_
              refine px_iconst (v := nI 2) dX6_dearest_53 (by decide) ?_
              refine px_iload dX6_dearest_54 rfl ?_
              refine px_iaddN dX6_dearest_56 ?_
              refine px_bL hg dX6_dearest_57 hk (by omega) (R.de c12) ?_
              refine px_aload_n dX6_dearest_58 rfl ?_
              refine px_iconst (v := nI 2) dX6_dearest_59 (by decide) ?_
              refine px_iload_n dX6_dearest_60 rfl ?_
              refine px_iaddN dX6_dearest_61 ?_
              refine px_bL hg dX6_dearest_62 hk (by omega) (R.de (by omega)) ?_
              refine px_icmp_leN 71 dX6_dearest_63 (by decide) (by first | omega | exact hOK.lt (by decide) | exact hOK.lts (by decide)) (by first | omega | exact hOK.lt (by decide) | exact hOK.lts (by decide)) (fun c63 => ?_) (fun c63 => ?_)
              · refine px_iload_n dX6_dearest_71 rfl ?_
                refine px_istn_3 dX6_dearest_72 (by decide) rfl ?_
                refine px_inc_4 dX6_dearest_73 rfl (nI_1 _) (by decide) rfl ?_
                refine px_goto 6 dX6_dearest_76 (by decide) ?_
                refine px_fg_5 ?_
                refine px_eq (lo2 := [some (.ref (w + 5 + k)), some (.int (nI t)), some (.int (nI rob)), some (.int (oI (tvic T t rob (i + 1)))), some (.int (nI (i + 1))), none]) ?_ rfl rfl (ih (i + 1) (by omega) (by omega))
                rw [tvic_no (Or.inr (Or.inr ⟨bb, hv, c63⟩)), hv]
                rfl
              · refine px_iload dX6_dearest_66 rfl ?_
                refine px_goto 72 dX6_dearest_68 (by decide) ?_
                refine px_istn_3 dX6_dearest_72 (by decide) rfl ?_
                refine px_inc_4 dX6_dearest_73 rfl (nI_1 _) (by decide) rfl ?_
                refine px_goto 6 dX6_dearest_76 (by decide) ?_
                refine px_fg_5 ?_
                refine px_eq (lo2 := [some (.ref (w + 5 + k)), some (.int (nI t)), some (.int (nI rob)), some (.int (oI (tvic T t rob (i + 1)))), some (.int (nI (i + 1))), none]) ?_ rfl rfl (ih (i + 1) (by omega) (by omega))
                rw [tvic_yes c31 c22 (Or.inr ⟨bb, hv, c63⟩)]
                rfl
set_option maxHeartbeats 4000000 in
set_option maxRecDepth 100000 in
theorem c_X6_dearest {E : xE} {h : xHp} {w : Nat} {D : xMd} {k : Nat} {g : Nat → Nat} {T : xT} (hk : k < 4) (hg : D.1 k = g) (R : Rep g T) (hOK : tOK T) (t rob : Nat) (ht : t < T.2 1) (hr : rob < 64) : PMI E mX6_dearest [.ref (w + 5 + k), .int (nI t), .int (nI rob)] (MH E h w D) (oI (tvic T t rob (T.2 0))) (MH E h w D) := by
  refine pm_of [some (.ref (w + 5 + k)), some (.int (nI t)), some (.int (nI rob)), none, none, none] (by decide +kernel) (Nat.le_of_ble_eq_true rfl) rfl ?_
  refine px_bipush (v := -4) dX6_dearest_0 (by decide) ?_
  refine px_istn_3 dX6_dearest_2 (by decide) rfl ?_
  refine px_iconst (v := nI 0) dX6_dearest_3 (by decide) ?_
  refine px_ist_4 dX6_dearest_4 (by decide) rfl ?_
  exact l_X6_dearest hk hg R hOK t rob ht hr (T.2 0 + 1) 0 (Nat.zero_le _) (by omega)
theorem addA_20 {g : Nat → Nat} {T : xT} (R : Rep g T) {kd s c : Nat} (h6 : T.2 0 < 6) : (va_up (va_up (va_up (va_up g (24 + T.2 0) kd) (8 + T.2 0) s) (14 + T.2 0) c) (2 + T.2 0) 0) 20 = T.2 2 := by
  rw [va_up_ne _ _ (by omega), va_up_ne _ _ (by omega), va_up_ne _ _ (by omega), va_up_ne _ _ (by omega)]
  exact R.sh
theorem addA_23 {g : Nat → Nat} {T : xT} (R : Rep g T) {kd s c : Nat} (h6 : T.2 0 < 6) : va_up (va_up (va_up (va_up (va_up g (24 + T.2 0) kd) (8 + T.2 0) s) (14 + T.2 0) c) (2 + T.2 0) 0) 20 (T.2 2 ||| 2 ^ T.2 0) 23 = T.2 0 := by
  rw [va_up_ne _ _ (by omega), va_up_ne _ _ (by omega), va_up_ne _ _ (by omega), va_up_ne _ _ (by omega), va_up_ne _ _ (by omega)]
  exact R.mn
set_option maxHeartbeats 4000000 in
set_option maxRecDepth 100000 in
theorem c_X6_addOne {E : xE} {h : xHp} {w : Nat} {D : xMd} {k : Nat} {g : Nat → Nat} {T : xT} (hk : k < 4) (R : Rep g T) (hOK : tOK T) (h6 : T.2 0 < 6) (kd s c : Nat) : PMI E mX6_addOne [.ref (w + 5 + k), .int (nI kd), .int (nI s), .int (nI c)] (MH E h w (sB D k g)) (nI (T.2 0)) (MH E h w (sB D k (va_up (va_up (va_up (va_up (va_up (va_up g (24 + T.2 0) kd) (8 + T.2 0) s) (14 + T.2 0) c) (2 + T.2 0) 0) 20 (T.2 2 ||| 2 ^ T.2 0)) 23 (T.2 0 + 1)))) := by
  have hm6 := hOK.1.1
  have hm4 := hOK.1.2.1
  refine pm_of [some (.ref (w + 5 + k)), some (.int (nI kd)), some (.int (nI s)), some (.int (nI c)), none] (by decide +kernel) (Nat.le_of_ble_eq_true rfl) rfl ?_
  refine px_aload_n dX6_addOne_0 rfl ?_
  refine px_bipush (v := nI 23) dX6_addOne_1 (by decide) ?_
  refine px_bL (sB_at _ _ _) dX6_addOne_3 hk (by omega) (R.mn) ?_
  refine px_ist_4 dX6_addOne_4 (by decide) rfl ?_
  refine px_aload_n dX6_addOne_6 rfl ?_
  refine px_bipush (v := nI 24) dX6_addOne_7 (by decide) ?_
  refine px_iload dX6_addOne_9 rfl ?_
  refine px_iaddN dX6_addOne_11 ?_
  refine px_iload_n dX6_addOne_12 rfl ?_
  refine px_bWs dX6_addOne_13 hk (by omega) ?_
  refine px_aload_n dX6_addOne_14 rfl ?_
  refine px_bipush (v := nI 8) dX6_addOne_15 (by decide) ?_
  refine px_iload dX6_addOne_17 rfl ?_
  refine px_iaddN dX6_addOne_19 ?_
  refine px_iload_n dX6_addOne_20 rfl ?_
  refine px_bWs dX6_addOne_21 hk (by omega) ?_
  refine px_aload_n dX6_addOne_22 rfl ?_
  refine px_bipush (v := nI 14) dX6_addOne_23 (by decide) ?_
  refine px_iload dX6_addOne_25 rfl ?_
  refine px_iaddN dX6_addOne_27 ?_
  refine px_iload_n dX6_addOne_28 rfl ?_
  refine px_bWs dX6_addOne_29 hk (by omega) ?_
  refine px_aload_n dX6_addOne_30 rfl ?_
  refine px_iconst (v := nI 2) dX6_addOne_31 (by decide) ?_
  refine px_iload dX6_addOne_32 rfl ?_
  refine px_iaddN dX6_addOne_34 ?_
  refine px_iconst (v := nI 0) dX6_addOne_35 (by decide) ?_
  refine px_bWs dX6_addOne_36 hk (by omega) ?_
  refine px_aload_n dX6_addOne_37 rfl ?_
  refine px_bipush (v := nI 20) dX6_addOne_38 (by decide) ?_
  refine px_aload_n dX6_addOne_40 rfl ?_
  refine px_bipush (v := nI 20) dX6_addOne_41 (by decide) ?_
  refine px_bL (sB_at _ _ _) dX6_addOne_43 hk (by omega) (addA_20 R h6) ?_
  refine px_iconst (v := nI 1) dX6_addOne_44 (by decide) ?_
  refine px_iload dX6_addOne_45 rfl ?_
  refine px_ishl1 dX6_addOne_47 (by omega) ?_
  refine px_iorN dX6_addOne_48 ?_
  refine px_bWs dX6_addOne_49 hk (by omega) ?_
  refine px_aload_n dX6_addOne_50 rfl ?_
  refine px_bipush (v := nI 23) dX6_addOne_51 (by decide) ?_
  refine px_dup2 dX6_addOne_53 rfl rfl ?_
  refine px_bL (sB_at _ _ _) dX6_addOne_54 hk (by omega) (addA_23 R h6) ?_
  refine px_iconst (v := nI 1) dX6_addOne_55 (by decide) ?_
  refine px_iaddN dX6_addOne_56 ?_
  refine px_bWs dX6_addOne_57 hk (by omega) ?_
  refine px_iload dX6_addOne_58 rfl ?_
  exact px_iret dX6_addOne_60 rfl rfl rfl ⟨rfl, rfl⟩
theorem addT_30 {g : Nat → Nat} {T : xT} (R : Rep g T) {kd c : Nat} (h4 : T.2 1 < 4) : va_up (va_up g (31 + T.2 1) kd) (35 + T.2 1) c 30 = T.2 1 := by
  rw [va_up_ne _ _ (by omega), va_up_ne _ _ (by omega)]
  exact R.th
set_option maxHeartbeats 4000000 in
set_option maxRecDepth 100000 in
theorem c_X6_addThief {E : xE} {h : xHp} {w : Nat} {D : xMd} {k : Nat} {g : Nat → Nat} {T : xT} (hk : k < 4) (R : Rep g T) (hOK : tOK T) (h4 : T.2 1 < 4) (kd c : Nat) : PMI E mX6_addThief [.ref (w + 5 + k), .int (nI kd), .int (nI c)] (MH E h w (sB D k g)) (nI (T.2 1)) (MH E h w (sB D k (va_up (va_up (va_up g (31 + T.2 1) kd) (35 + T.2 1) c) 30 (T.2 1 + 1)))) := by
  have hm6 := hOK.1.1
  have hm4 := hOK.1.2.1
  refine pm_of [some (.ref (w + 5 + k)), some (.int (nI kd)), some (.int (nI c)), none] (by decide +kernel) (Nat.le_of_ble_eq_true rfl) rfl ?_
  refine px_aload_n dX6_addThief_0 rfl ?_
  refine px_bipush (v := nI 30) dX6_addThief_1 (by decide) ?_
  refine px_bL (sB_at _ _ _) dX6_addThief_3 hk (by omega) (R.th) ?_
  refine px_istn_3 dX6_addThief_4 (by decide) rfl ?_
  refine px_aload_n dX6_addThief_5 rfl ?_
  refine px_bipush (v := nI 31) dX6_addThief_6 (by decide) ?_
  refine px_iload_n dX6_addThief_8 rfl ?_
  refine px_iaddN dX6_addThief_9 ?_
  refine px_iload_n dX6_addThief_10 rfl ?_
  refine px_bWs dX6_addThief_11 hk (by omega) ?_
  refine px_aload_n dX6_addThief_12 rfl ?_
  refine px_bipush (v := nI 35) dX6_addThief_13 (by decide) ?_
  refine px_iload_n dX6_addThief_15 rfl ?_
  refine px_iaddN dX6_addThief_16 ?_
  refine px_iload_n dX6_addThief_17 rfl ?_
  refine px_bWs dX6_addThief_18 hk (by omega) ?_
  refine px_aload_n dX6_addThief_19 rfl ?_
  refine px_bipush (v := nI 30) dX6_addThief_20 (by decide) ?_
  refine px_dup2 dX6_addThief_22 rfl rfl ?_
  refine px_bL (sB_at _ _ _) dX6_addThief_23 hk (by omega) (addT_30 R h4) ?_
  refine px_iconst (v := nI 1) dX6_addThief_24 (by decide) ?_
  refine px_iaddN dX6_addThief_25 ?_
  refine px_bWs dX6_addThief_26 hk (by omega) ?_
  refine px_iload_n dX6_addThief_27 rfl ?_
  exact px_iret dX6_addThief_28 rfl rfl rfl ⟨rfl, rfl⟩
set_option maxHeartbeats 4000000 in
set_option maxRecDepth 100000 in
theorem c_X6_setShows {E : xE} {h : xHp} {w : Nat} {D : xMd} {k : Nat} {g : Nat → Nat} {T : xT} (hk : k < 4) (R : Rep g T) (hOK : tOK T) (a : Nat) (v : Bool) (ha : a < 6) : PMV E mX6_setShows [.ref (w + 5 + k), .int (nI a), .int (bI v)] (MH E h w (sB D k g)) (MH E h w (sB D k (va_up g 20 (if v then T.2 2 ||| 2 ^ a else ndif (T.2 2) (2 ^ a))))) := by
  have hm6 := hOK.1.1
  have hm4 := hOK.1.2.1
  refine pm_of [some (.ref (w + 5 + k)), some (.int (nI a)), some (.int (bI v))] (by decide +kernel) (Nat.le_of_ble_eq_true rfl) rfl ?_
  refine px_aload_n dX6_setShows_0 rfl ?_
  refine px_bipush (v := nI 20) dX6_setShows_1 (by decide) ?_
  refine px_iload_n dX6_setShows_3 rfl ?_
  refine px_if_eqB 18 dX6_setShows_4 (by decide) (fun c4 => ?_) (fun c4 => ?_)
  · refine px_aload_n dX6_setShows_18 rfl ?_
    refine px_bipush (v := nI 20) dX6_setShows_19 (by decide) ?_
    refine px_bL (sB_at _ _ _) dX6_setShows_21 hk (by omega) (R.sh) ?_
    refine px_iconst (v := nI 1) dX6_setShows_22 (by decide) ?_
    refine px_iload_n dX6_setShows_23 rfl ?_
    refine px_ishl1 dX6_setShows_24 (by omega) ?_
    refine px_iconst (v := -1) dX6_setShows_25 (by decide) ?_
    refine px_ixor dX6_setShows_26 ?_
    refine px_iand dX6_setShows_27 (px_topi (nx_dif _ _) ?_)
    refine px_bWs dX6_setShows_28 hk (by omega) ?_
    exact px_vret dX6_setShows_29 rfl rfl rfl ⟨rfl, by rw [c4]; rfl⟩
  · refine px_aload_n dX6_setShows_7 rfl ?_
    refine px_bipush (v := nI 20) dX6_setShows_8 (by decide) ?_
    refine px_bL (sB_at _ _ _) dX6_setShows_10 hk (by omega) (R.sh) ?_
    refine px_iconst (v := nI 1) dX6_setShows_11 (by decide) ?_
    refine px_iload_n dX6_setShows_12 rfl ?_
    refine px_ishl1 dX6_setShows_13 (by omega) ?_
    refine px_iorN dX6_setShows_14 ?_
    refine px_goto 28 dX6_setShows_15 (by decide) ?_
    refine px_bWs dX6_setShows_28 hk (by omega) ?_
    exact px_vret dX6_setShows_29 rfl rfl rfl ⟨rfl, by rw [c4]; rfl⟩
