/-! ===== the relation of class and reference ===== -/
/-- a moment that may come back, on a board at o -/
def BR (g : Nat → Nat) (o : Nat) (Mo T : xT) : Prop := (tOK Mo ∧ Mo.2 4 ≤ 9999) ∧ (g (o + 0) = Mo.2 4 ∧ g (o + 1) = Mo.2 6 ∧ g (o + 20) = Mo.2 2 ∧ g (o + 21) = Mo.2 3) ∧ (Mo.2 0 = T.2 0 ∧ Mo.2 1 = T.2 1) ∧ (∀ a, a < T.2 0 → g (o + (2 + a)) = Mo.1 2 a ∧ g (o + (8 + a)) = Mo.1 1 a ∧ g (o + (14 + a)) = Mo.1 3 a ∧ Mo.1 0 a = T.1 0 a) ∧ (∀ t, t < T.2 1 → Mo.1 4 t = T.1 4 t ∧ Mo.1 5 t = T.1 5 t)
/-- what no night changes is the same -/
def tst (T T' : xT) : Prop := (T'.2 0 = T.2 0 ∧ T'.2 1 = T.2 1) ∧ (∀ a, a < T.2 0 → T'.1 0 a = T.1 0 a) ∧ (∀ t, t < T.2 1 → T'.1 4 t = T.1 4 t ∧ T'.1 5 t = T.1 5 t)
theorem tst.rf (T : xT) : tst T T := ⟨⟨rfl, rfl⟩, fun _ _ => rfl, fun _ _ => ⟨rfl, rfl⟩⟩
theorem tst.trans {A B C : xT} (h1 : tst A B) (h2 : tst B C) : tst A C := by
  obtain ⟨⟨a1, a2⟩, a3, a4⟩ := h1
  obtain ⟨⟨b1, b2⟩, b3, b4⟩ := h2
  refine ⟨⟨b1.trans a1, b2.trans a2⟩, fun a ha => (b3 a (by rw [a1]; exact ha)).trans (a3 a ha), fun t ht => ?_⟩
  have := b4 t (by rw [a2]; exact ht)
  exact ⟨this.1.trans (a4 t ht).1, this.2.trans (a4 t ht).2⟩
theorem BR.move {g g' : Nat → Nat} {o o' : Nat} {Mo T T' : xT} (h : BR g o Mo T) (h6 : T.2 0 ≤ 6) (he : ∀ q, q < 22 → g' (o' + q) = g (o + q)) (hs : tst T T') : BR g' o' Mo T' := by
  obtain ⟨k0, ⟨k1, k2, k3, k4⟩, ⟨k5, k6⟩, k7, k8⟩ := h
  obtain ⟨⟨s1, s2⟩, s3, s4⟩ := hs
  refine ⟨k0, ⟨?_, ?_, ?_, ?_⟩, ⟨by rw [k5, s1], by rw [k6, s2]⟩, fun a ha => ?_, fun t ht => ?_⟩
  · rw [he 0 (by decide)]; exact k1
  · rw [he 1 (by decide)]; exact k2
  · rw [he 20 (by decide)]; exact k3
  · rw [he 21 (by decide)]; exact k4
  · rw [s1] at ha
    rw [he _ (by omega), he _ (by omega), he _ (by omega), s3 a ha]
    exact k7 a ha
  · rw [s2] at ht
    rw [(s4 t ht).1, (s4 t ht).2]
    exact k8 t ht
theorem BR.self {g g' : Nat → Nat} {o : Nat} {T : xT} (R : Rep g T) (hOK : tOK T) (hn : T.2 4 ≤ 9999) (he : ∀ q, q < 22 → g' (o + q) = g q) : BR g' o T T := by
  have h6 := hOK.1.1
  refine ⟨⟨hOK, hn⟩, ⟨?_, ?_, ?_, ?_⟩, ⟨rfl, rfl⟩, fun a ha => ⟨?_, ?_, ?_, rfl⟩, fun t ht => ⟨rfl, rfl⟩⟩
  · rw [he 0 (by decide)]; exact R.nt
  · rw [he 1 (by decide)]; exact R.dr
  · rw [he 20 (by decide)]; exact R.sh
  · rw [he 21 (by decide)]; exact R.sw
  · rw [he _ (by omega)]; exact R.de ha
  · rw [he _ (by omega)]; exact R.so ha
  · rw [he _ (by omega)]; exact R.ca ha
def RP (g : Nat → Nat) (T : xT) (P : xP) : Prop := g 39 = P.2.2 ∧ P.2.2 ≤ 8 ∧ P.2.1 < 8 ∧ ∀ k, k < P.2.2 → BR g (40 + 22 * k) (P.1 ((P.2.1 + 8 - P.2.2 + k) % 8)) T
def RN (g : Nat → Nat) (T : xT) (P : xP) : Prop := Rep g T ∧ (tOK T ∧ T.2 4 ≤ 9999) ∧ RP g T P
theorem RN.cong {g g' : Nat → Nat} {T : xT} {P : xP} (h : RN g T P) (he : ∀ q, q < 216 → g' q = g q) : RN g' T P := by
  obtain ⟨R, ⟨hOK, hn⟩, p1, p2, p3, p4⟩ := h
  refine ⟨R.cong hOK.1.1 hOK.1.2.1 (fun i hi => he i (by omega)), ⟨hOK, hn⟩, by rw [he 39 (by decide)]; exact p1, p2, p3, fun k hk => (p4 k hk).move hOK.1.1 (fun q hq => he _ (by omega)) (tst.rf T)⟩
/-- a change of the town's own part of a board -/
theorem RN.town {g g' : Nat → Nat} {T T' : xT} {P : xP} (h : RN g T P) (R' : Rep g' T') (hOK' : tOK T') (hn' : T'.2 4 ≤ 9999) (hs : tst T T') (he : ∀ q, 39 ≤ q → g' q = g q) : RN g' T' P := by
  obtain ⟨R, ⟨hOK, hn⟩, p1, p2, p3, p4⟩ := h
  exact ⟨R', ⟨hOK', hn'⟩, by rw [he 39 (by decide)]; exact p1, p2, p3, fun k hk => (p4 k hk).move hOK.1.1 (fun q hq => he _ (by omega)) hs⟩
/-- nothing may be undone -/
theorem RN.none {g : Nat → Nat} {T : xT} {P : xP} (R' : Rep g T) (hOK : tOK T) (hn : T.2 4 ≤ 9999) (hz : g 39 = 0) (hP : P.2.1 < 8) : RN g T (P.1, P.2.1, 0) := ⟨R', ⟨hOK, hn⟩, hz, by show 0 ≤ 8; omega, hP, fun k hk => absurd hk (Nat.not_lt_zero k)⟩
theorem RN.shift {f : Nat → Nat} {T : xT} {P : xP} (h : RN f T P) (h8 : P.2.2 = 8) : RN (va_up (va_cpy f f 62 40 154) 39 7) T (P.1, P.2.1, 7) := by
  obtain ⟨R, ⟨hOK, hn⟩, p1, p2, p3, p4⟩ := h
  have e1 : ∀ q, q < 39 → va_up (va_cpy f f 62 40 154) 39 7 q = f q := fun q hq => by
    rw [va_up_ne _ _ (by omega)]
    unfold va_cpy
    rw [if_neg (by omega)]
  refine ⟨R.cong hOK.1.1 hOK.1.2.1 e1, ⟨hOK, hn⟩, va_up_self _ _ _, by show 7 ≤ 8; omega, p3, fun k hk => ?_⟩
  have hk : k < 7 := hk
  have h4 := p4 (k + 1) (by omega)
  rw [h8, show P.2.1 + 8 - 8 + (k + 1) = P.2.1 + 8 - 7 + k by omega] at h4
  refine h4.move hOK.1.1 (fun q hq => ?_) (tst.rf T)
  rw [va_up_ne _ _ (by omega)]
  unfold va_cpy
  rw [if_pos (by omega)]
  congr 1
  omega
theorem RN.push {g : Nat → Nat} {T : xT} {P : xP} (h : RN g T P) (h8 : P.2.2 < 8) : RN (va_up (va_cpy g g 0 (40 + 22 * P.2.2) 22) 39 (P.2.2 + 1)) T (va_up P.1 P.2.1 T, (P.2.1 + 1) % 8, P.2.2 + 1) := by
  obtain ⟨R, ⟨hOK, hn⟩, p1, p2, p3, p4⟩ := h
  have e1 : ∀ q, q < 39 → va_up (va_cpy g g 0 (40 + 22 * P.2.2) 22) 39 (P.2.2 + 1) q = g q := fun q hq => by
    rw [va_up_ne _ _ (by omega)]
    unfold va_cpy
    rw [if_neg (by omega)]
  refine ⟨R.cong hOK.1.1 hOK.1.2.1 e1, ⟨hOK, hn⟩, va_up_self _ _ _, by show P.2.2 + 1 ≤ 8; omega, Nat.mod_lt _ (by decide), fun k hk => ?_⟩
  have hk : k < P.2.2 + 1 := hk
  show BR _ _ (va_up P.1 P.2.1 T (((P.2.1 + 1) % 8 + 8 - (P.2.2 + 1) + k) % 8)) T
  by_cases hkk : k = P.2.2
  · subst hkk
    have e2 : ((P.2.1 + 1) % 8 + 8 - (P.2.2 + 1) + P.2.2) % 8 = P.2.1 := by omega
    rw [e2, va_up_self]
    refine BR.self R hOK hn (fun q hq => ?_)
    rw [va_up_ne _ _ (by omega)]
    unfold va_cpy
    rw [if_pos (by omega)]
    congr 1
    omega
  · have e2 : ((P.2.1 + 1) % 8 + 8 - (P.2.2 + 1) + k) % 8 = (P.2.1 + 8 - P.2.2 + k) % 8 := by omega
    have e3 : (P.2.1 + 8 - P.2.2 + k) % 8 ≠ P.2.1 := by omega
    rw [e2, va_up_ne _ _ e3]
    refine (p4 k (by omega)).move hOK.1.1 (fun q hq => ?_) (tst.rf T)
    rw [va_up_ne _ _ (by omega)]
    unfold va_cpy
    rw [if_neg (by omega)]
theorem RN.back {g : Nat → Nat} {T : xT} {P : xP} {b : Nat} (h : RN g T P) (hb : P.2.2 = b + 1) : RN (va_cpy (va_up g 39 b) (va_up g 39 b) (40 + 22 * b) 0 22) (ptown P T) (pback P) := by
  obtain ⟨R, ⟨hOK, hn⟩, p1, p2, p3, p4⟩ := h
  have h6 := hOK.1.1
  have h4 := hOK.1.2.1
  have hM := p4 b (by omega)
  have ei : (P.2.1 + 8 - P.2.2 + b) % 8 = (P.2.1 + 8 - 1) % 8 := by omega
  rw [ei] at hM
  obtain ⟨⟨kO, kn⟩, ⟨k1, k2, k3, k4⟩, ⟨k5, k6⟩, k7, k8⟩ := hM
  have lo : ∀ q, q < 22 → va_cpy (va_up g 39 b) (va_up g 39 b) (40 + 22 * b) 0 22 q = g (40 + 22 * b + q) := fun q hq => by
    unfold va_cpy
    rw [if_pos (by omega), va_up_ne _ _ (by omega), Nat.sub_zero]
  have hi : ∀ q, 22 ≤ q → q ≠ 39 → va_cpy (va_up g 39 b) (va_up g 39 b) (40 + 22 * b) 0 22 q = g q := fun q hq hq2 => by
    unfold va_cpy
    rw [if_neg (by omega), va_up_ne _ _ hq2]
  have hs : tst T (ptown P T) := ⟨⟨k5, k6⟩, fun a ha => (k7 a ha).2.2.2, k8⟩
  have hOK' : tOK (ptown P T) := tSS_ok kO (by have := hOK.1.2.2.2.2.2.1; omega)
  refine ⟨⟨⟨?_, ?_, ?_, ?_, ?_, ?_, ?_⟩, fun a ha => ⟨?_, ?_, ?_, ?_⟩, fun t ht => ⟨?_, ?_⟩⟩, ⟨hOK', kn⟩, ?_, ?_, ?_, fun k hk => ?_⟩
  · rw [lo 0 (by decide)]; exact k1
  · rw [lo 1 (by decide)]; exact k2
  · rw [lo 20 (by decide)]; exact k3
  · rw [lo 21 (by decide)]; exact k4
  · rw [hi 22 (by decide) (by decide)]; exact R.ba
  · rw [hi 23 (by decide) (by decide)]; exact R.mn.trans k5.symm
  · rw [hi 30 (by decide) (by decide)]; exact R.th.trans k6.symm
  · have ha : a < T.2 0 := by rw [← k5]; exact ha
    rw [lo _ (by omega)]; exact (k7 a ha).1
  · have ha : a < T.2 0 := by rw [← k5]; exact ha
    rw [lo _ (by omega)]; exact (k7 a ha).2.1
  · have ha : a < T.2 0 := by rw [← k5]; exact ha
    rw [lo _ (by omega)]; exact (k7 a ha).2.2.1
  · have ha : a < T.2 0 := by rw [← k5]; exact ha
    rw [hi _ (by omega) (by omega)]; exact (R.ki ha).trans (k7 a ha).2.2.2.symm
  · have ht : t < T.2 1 := by rw [← k6]; exact ht
    rw [hi _ (by omega) (by omega)]; exact (R.sk ht).trans (k8 t ht).1.symm
  · have ht : t < T.2 1 := by rw [← k6]; exact ht
    rw [hi _ (by omega) (by omega)]; exact (R.wa ht).trans (k8 t ht).2.symm
  · show va_cpy _ _ _ _ _ 39 = P.2.2 - 1
    unfold va_cpy
    rw [if_neg (by omega), va_up_self, hb]
    omega
  · show P.2.2 - 1 ≤ 8
    omega
  · exact Nat.mod_lt _ (by decide)
  · have hk : k < P.2.2 - 1 := hk
    show BR _ _ (P.1 (((P.2.1 + 8 - 1) % 8 + 8 - (P.2.2 - 1) + k) % 8)) _
    have e2 : ((P.2.1 + 8 - 1) % 8 + 8 - (P.2.2 - 1) + k) % 8 = (P.2.1 + 8 - P.2.2 + k) % 8 := by omega
    rw [e2]
    exact (p4 k (by omega)).move h6 (fun q hq => hi _ (by omega) (by omega)) hs
theorem pkeep_lt {P : xP} {T : xT} (h : P.2.2 < 8) : pkeep P T = (va_up P.1 P.2.1 T, (P.2.1 + 1) % 8, P.2.2 + 1) := by
  unfold pkeep
  rw [Nat.min_eq_right (by omega)]
theorem pkeep_8 {P : xP} {T : xT} (h : P.2.2 = 8) : pkeep P T = (va_up P.1 P.2.1 T, (P.2.1 + 1) % 8, 7 + 1) := by
  unfold pkeep
  rw [h]
  rfl
def RS (D : xMd) (s : Nat) (S : xS) : Prop := mLa D s = S.2.1 ∧ (S.2.1 = -1 ∨ ∃ l, l < 4 ∧ S.2.1 = nI l ∧ mSz D s = S.2.2) ∧ S.2.2 ≤ 24 ∧ mSz D s ≤ 24 ∧ ∀ i, i < 24 → mIt D (24 * s + i) = S.1 i
def RK (D : xMd) (K : xK) : Prop := mLn D = K.2.1 ∧ K.2.1 ≤ 80 ∧ (∀ i, K.1 i ≤ 126) ∧ ∀ i, i < K.2.1 → mTp D i = K.1 i ∧ 32 ≤ K.1 i
def Rel (O : xO) (D : xMd) : Prop := RN (D.1 0) (O.1.1 0) (O.1.2 0) ∧ (mIk D = O.2.2.2 ∧ (O.2.2.2 = true → RN (D.1 3) (O.1.1 1) (O.1.2 1))) ∧ (∀ s, s < 4 → RS D s (O.2.1 s)) ∧ RK D O.2.2.1 ∧ (tOK (O.1.1 2) ∧ tOK (O.1.1 3))
theorem Rel.xok {O : xO} {D : xMd} (R : Rel O D) : xOok O := ⟨R.1.2.1.1, R.1.2.2.2.2.1, R.1.2.2.2.1⟩
theorem Rel.setN {O : xO} {D : xMd} {g' : Nat → Nat} {T' : xT} {P' : xP} {pr : Nat → Int32} (R : Rel O D) (hN : RN g' T' P') : Rel (oT (oP O 0 P') 0 T') (sB (sPr D pr) 0 g') := ⟨hN, R.2⟩
theorem Rel.setT {O : xO} {D : xMd} {g' : Nat → Nat} {T' : xT} (R : Rel O D) (hN : RN g' T' (O.1.2 0)) : Rel (oT O 0 T') (sB D 0 g') := ⟨hN, R.2⟩
theorem Rel.t2 {O : xO} {D : xMd} {T' : xT} (R : Rel O D) (hT : tOK T') : Rel (oT O 2 T') D := ⟨R.1, R.2.1, R.2.2.1, R.2.2.2.1, hT, R.2.2.2.2.2⟩
theorem Rel.tried {O : xO} {D : xMd} {g' : Nat → Nat} {pr : Nat → Int32} (R : Rel O D) : Rel O (sB (sPr D pr) 1 g') := R
theorem Rel.tried0 {O : xO} {D : xMd} {g' : Nat → Nat} (R : Rel O D) : Rel O (sB D 1 g') := R
theorem oTP (O : xO) (T : xT) : oT (oP O 0 (O.1.2 0)) 0 T = oT O 0 T := by rw [oP_self]

