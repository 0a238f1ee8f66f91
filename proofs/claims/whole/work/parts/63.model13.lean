/-! ===== how many could be robbed at once: all ways against the worst set ===== -/
def mget (r S : Nat) : Nat := r / 8 ^ S % 8
def mmin (r c S : Nat) : Nat := min (mget r S + 1) (bc (S &&& c) + mget r (ndif S c))
def mmx1 (r c S t : Nat) : Nat := if (S &&& c).testBit t then mget r (ndif S (2 ^ t)) + 1 else 0
def mmax (r c S : Nat) : Nat := max (mget r S) (max (max (mmx1 r c S 0) (mmx1 r c S 1)) (max (mmx1 r c S 2) (mmx1 r c S 3)))
def mstpA (r c : Nat) : Nat → Nat
  | 0 => 0
  | S + 1 => mstpA r c S + mmin r c S * 8 ^ S
def mstp (r c : Nat) : Nat := mstpA r c 16
def mR : List Nat := [0, 35742854185480, 39592084636224, 40141974700616, 40200896286720, 40209620439560, 40210559963712, 40210694181448, 40210708561920, 40210710692360, 40210710921792, 40210710954568, 40210710958080, 40210710958600, 40210710958656, 40210710958664, 75334938821704, 75943750472200, 75953414149192, 75953562747400, 75953565107272, 75953565143560, 75953565144136, 79792980922944, 79801705075784, 79802793198144, 79802795328584, 79802795594304, 79802795594824, 80342870987336, 80351460922440, 80352683262536, 80352685360200, 80352685658696, 80352685659208, 80411604848640, 80411606979080, 80411607208512, 80411607241288, 80420329001480, 80420331131400, 80420331361352, 80420331394120, 80421268525632, 80421270656072, 80421270884928, 80421270918216, 80421402743368, 80421404873800, 80421405103176, 80421405135944, 80421405135432, 115535835108424, 115545647383624, 115545649779784, 116154459034120, 116154461393992, 116164122711112, 116164125070408, 120003689484864, 120003691615304, 120012413637704, 120012415767624, 120553579549256, 120553581646920, 120562169484360, 120562171581512, 155746543670344]
theorem mR_ok : (mR.all fun r => (List.range 16).all fun c => mR.contains (mstp r c) && (List.range 16).all fun S => decide (mget (mstp r c) S = mmin r c S) && decide (mmin r c S = mmax r c S)) = true := by decide +kernel
theorem mR_s {r c : Nat} (hr : r ∈ mR) (hc : c < 16) : mstp r c ∈ mR ∧ ∀ S, S < 16 → mget (mstp r c) S = mmin r c S ∧ mget (mstp r c) S = mmax r c S := by
  have h1 := List.all_eq_true.mp mR_ok r hr
  have h2 := List.all_eq_true.mp h1 c (List.mem_range.mpr hc)
  rw [Bool.and_eq_true] at h2
  refine ⟨List.contains_iff_mem.mp h2.1, fun S hS => ?_⟩
  have h3 := List.all_eq_true.mp h2.2 S (List.mem_range.mpr hS)
  rw [Bool.and_eq_true] at h3
  have h4 := of_decide_eq_true h3.1
  exact ⟨h4, h4.trans (of_decide_eq_true h3.2)⟩
theorem twhom_tb {T : xT} {t j : Nat} : ∀ n, (twhom T t n).testBit j = (decide (j < n) && tmay T t j)
  | 0 => by rw [twhom, Nat.zero_testBit, decide_eq_false (by omega)]; rfl
  | n + 1 => by
    have ih := twhom_tb (T := T) (t := t) (j := j) n
    rw [twhom]
    by_cases hj : j = n
    · subst hj
      rw [decide_eq_true (by omega), Bool.true_and]
      rw [decide_eq_false (by omega), Bool.false_and] at ih
      cases hm : tmay T t j
      · rw [if_neg (by decide)]; exact ih
      · rw [if_pos rfl, or_bit, ih, decide_eq_true rfl]; rfl
    · have e : decide (j < n + 1) = decide (j < n) := decide_eq_decide.mpr (by omega)
      rw [e]
      split
      · rw [or_bit, ih, decide_eq_false (show ¬ n = j by omega), Bool.or_false]
      · exact ih
theorem twho_tb {T : xT} {a j : Nat} : ∀ n, (twho T a n).testBit j = (decide (j < n) && tmay T j a)
  | 0 => by rw [twho, Nat.zero_testBit, decide_eq_false (by omega)]; rfl
  | n + 1 => by
    have ih := twho_tb (T := T) (a := a) (j := j) n
    rw [twho]
    by_cases hj : j = n
    · subst hj
      rw [decide_eq_true (by omega), Bool.true_and]
      rw [decide_eq_false (by omega), Bool.false_and] at ih
      cases hm : tmay T j a
      · rw [if_neg (by decide)]; exact ih
      · rw [if_pos rfl, or_bit, ih, decide_eq_true rfl]; rfl
    · have e : decide (j < n + 1) = decide (j < n) := decide_eq_decide.mpr (by omega)
      rw [e]
      split
      · rw [or_bit, ih, decide_eq_false (show ¬ n = j by omega), Bool.or_false]
      · exact ih
theorem treach_tb {T : xT} {s j : Nat} : ∀ n, (treach T s n).testBit j = true ↔ j < T.2 0 ∧ ∃ t, t < n ∧ s.testBit t = true ∧ tmay T t j = true
  | 0 => by
    rw [treach, Nat.zero_testBit]
    exact ⟨fun z => (by cases z), fun ⟨_, t, ht, _⟩ => absurd ht (Nat.not_lt_zero t)⟩
  | n + 1 => by
    have ih := treach_tb (T := T) (s := s) (j := j) n
    rw [treach]
    cases hs : s.testBit n
    · rw [if_neg (by decide), ih]
      constructor
      · rintro ⟨h1, t, h2, h3⟩
        exact ⟨h1, t, by omega, h3⟩
      · rintro ⟨h1, t, h2, h3⟩
        refine ⟨h1, t, ?_, h3⟩
        have : t ≠ n := fun e => by rw [e, hs] at h3; cases h3.1
        omega
    · rw [if_pos rfl, Nat.testBit_or, Bool.or_eq_true, ih, twhom_tb, Bool.and_eq_true, decide_eq_true_eq]
      constructor
      · rintro (⟨h1, t, h2, h3⟩ | ⟨h1, h2⟩)
        · exact ⟨h1, t, by omega, h3⟩
        · exact ⟨h1, n, by omega, hs, h2⟩
      · rintro ⟨h1, t, h2, h3⟩
        by_cases e : t = n
        · subst e; exact Or.inr ⟨h1, h3.2⟩
        · exact Or.inl ⟨h1, t, by omega, h3⟩
def mcl (T : xT) (j : Nat) : Nat := if j < T.2 0 then twho T j (T.2 1) else 0
theorem mcl_tb {T : xT} {j t : Nat} : (mcl T j).testBit t = true ↔ j < T.2 0 ∧ t < T.2 1 ∧ tmay T t j = true := by
  unfold mcl
  by_cases h : j < T.2 0
  · rw [if_pos h, twho_tb, Bool.and_eq_true, decide_eq_true_eq]
    exact ⟨fun z => ⟨h, z⟩, fun z => z.2⟩
  · rw [if_neg h, Nat.zero_testBit]
    exact ⟨fun z => (by cases z), fun z => absurd z.1 h⟩
theorem mcl_lt {T : xT} (h4 : T.2 1 ≤ 4) (j : Nat) : mcl T j < 16 := by
  refine Nat.lt_pow_two_of_testBit (n := 4) _ (fun i hi => ?_)
  cases h : (mcl T j).testBit i
  · rfl
  · have := mcl_tb.mp h; omega
theorem and_0 {s c : Nat} : s &&& c = 0 ↔ ∀ t, s.testBit t = true → c.testBit t = false := by
  constructor
  · intro h t ht
    have : (s &&& c).testBit t = false := by rw [h, Nat.zero_testBit]
    rw [Nat.testBit_and, ht, Bool.true_and] at this
    exact this
  · intro h
    apply Nat.eq_of_testBit_eq
    intro t
    rw [Nat.testBit_and, Nat.zero_testBit]
    cases hs : s.testBit t
    · rfl
    · rw [h t hs]; rfl
theorem reach_bit {T : xT} (s j : Nat) : treach T s (T.2 1) / 2 ^ j % 2 = if s &&& mcl T j = 0 then 0 else 1 := by
  have e := tb_div (treach T s (T.2 1)) j
  by_cases h : s &&& mcl T j = 0
  · rw [if_pos h]
    cases hb : (treach T s (T.2 1)).testBit j
    · rw [hb] at e
      have := of_decide_eq_false e.symm
      omega
    · obtain ⟨h1, t, h2, h3, h4⟩ := (treach_tb _).mp hb
      have := and_0.mp h t h3
      rw [mcl_tb.mpr ⟨h1, h2, h4⟩] at this
      cases this
  · rw [if_neg h]
    cases hb : (treach T s (T.2 1)).testBit j
    · refine absurd (and_0.mpr (fun t ht => ?_)) h
      cases hc : (mcl T j).testBit t
      · rfl
      · have hq := mcl_tb.mp hc
        rw [(treach_tb _).mpr ⟨hq.1, t, hq.2.1, ht, hq.2.2⟩] at hb
        cases hb
    · rw [hb] at e
      exact of_decide_eq_true e.symm
def mrs (T : xT) : Nat → Nat
  | 0 => 0
  | j + 1 => mstp (mrs T j) (mcl T j)
theorem mrs_R {T : xT} (h4 : T.2 1 ≤ 4) : ∀ j, mrs T j ∈ mR
  | 0 => by unfold mrs mR; exact List.mem_cons_self
  | j + 1 => (mR_s (mrs_R h4 j) (mcl_lt h4 j)).1
theorem mrs_s {T : xT} (h4 : T.2 1 ≤ 4) (j : Nat) {S : Nat} (hS : S < 16) : mget (mrs T (j + 1)) S = mmin (mrs T j) (mcl T j) S ∧ mget (mrs T (j + 1)) S = mmax (mrs T j) (mcl T j) S := (mR_s (mrs_R h4 j) (mcl_lt h4 j)).2 S hS
theorem mF1 : ∀ S : Fin 16, ∀ c : Fin 16, bc (S.1 &&& c.1) + bc (ndif S.1 c.1) = bc S.1 ∧ ndif S.1 c.1 < 16 := by decide +kernel
theorem mF2 : ∀ s : Fin 16, ∀ S : Fin 16, ∀ c : Fin 16, (ndif s.1 S.1 = 0 → s.1 &&& c.1 = 0 → ndif s.1 (ndif S.1 c.1) = 0) ∧ (ndif s.1 (ndif S.1 c.1) = 0 → s.1 &&& c.1 = 0 ∧ ndif s.1 S.1 = 0) := by decide +kernel
theorem mF4 : ∀ s : Fin 16, ∀ S : Fin 16, ndif s.1 S.1 = 0 → bc s.1 ≤ bc S.1 := by decide +kernel
theorem mget_0 (S : Nat) : mget 0 S = 0 := by unfold mget; rw [Nat.zero_div]
theorem ndif_same (S : Nat) : ndif S S = 0 := ndif_0.mpr (fun _ h => h)
def nbn (T : xT) (j s : Nat) : Nat := bcn (treach T s (T.2 1)) j
theorem nbn_s (T : xT) (j s : Nat) : nbn T (j + 1) s = nbn T j s + if s &&& mcl T j = 0 then 0 else 1 := by
  unfold nbn
  rw [bcn, reach_bit]
theorem min_side {T : xT} (h4 : T.2 1 ≤ 4) : ∀ j S, S < 16 → (∀ s, s < 16 → ndif s S = 0 → mget (mrs T j) S + bc s ≤ bc S + nbn T j s) ∧ ∃ s, s < 16 ∧ ndif s S = 0 ∧ mget (mrs T j) S + bc s = bc S + nbn T j s
  | 0, S, hS => by
    have e : mget (mrs T 0) S = 0 := mget_0 S
    refine ⟨fun s hs hd => ?_, S, hS, ndif_same S, ?_⟩
    · rw [e]
      have := mF4 ⟨s, hs⟩ ⟨S, hS⟩ hd
      have this : bc s ≤ bc S := this
      omega
    · rw [e]
      show 0 + bc S = bc S + 0
      omega
  | j + 1, S, hS => by
    have hc := mcl_lt h4 j
    obtain ⟨f1, f0⟩ : bc (S &&& mcl T j) + bc (ndif S (mcl T j)) = bc S ∧ ndif S (mcl T j) < 16 := mF1 ⟨S, hS⟩ ⟨mcl T j, hc⟩
    have f2 : ∀ s, s < 16 → (ndif s S = 0 → s &&& mcl T j = 0 → ndif s (ndif S (mcl T j)) = 0) ∧ (ndif s (ndif S (mcl T j)) = 0 → s &&& mcl T j = 0 ∧ ndif s S = 0) := fun s hs => mF2 ⟨s, hs⟩ ⟨S, hS⟩ ⟨mcl T j, hc⟩
    obtain ⟨a1, s1, b1, b2, b3⟩ := min_side h4 j S hS
    obtain ⟨a2, s2, c1, c2, c3⟩ := min_side h4 j (ndif S (mcl T j)) f0
    have e := (mrs_s h4 j hS).1
    unfold mmin at e
    refine ⟨fun s hs hd => ?_, ?_⟩
    · rw [nbn_s]
      by_cases h0 : s &&& mcl T j = 0
      · rw [if_pos h0]
        have := a2 s hs ((f2 s hs).1 hd h0)
        omega
      · rw [if_neg h0]
        have := a1 s hs hd
        omega
    · by_cases hm : mget (mrs T j) S + 1 ≤ bc (S &&& mcl T j) + mget (mrs T j) (ndif S (mcl T j))
      · refine ⟨s1, b1, b2, ?_⟩
        rw [nbn_s]
        by_cases h0 : s1 &&& mcl T j = 0
        · have := a2 s1 b1 ((f2 s1 b1).1 b2 h0)
          omega
        · rw [if_neg h0]
          omega
      · have q := (f2 s2 c1).2 c2
        refine ⟨s2, c1, q.2, ?_⟩
        rw [nbn_s, if_pos q.1]
        omega
theorem tmost_ge {T : xT} {v : Nat} (hv : v ≤ T.2 1) : ∀ n, (∀ s, s < n → v ≤ T.2 1 - bc s + bc (treach T s (T.2 1))) → v ≤ tmost T n
  | 0, _ => hv
  | n + 1, h => by
    have h1 := tmost_ge hv n (fun s hs => h s (by omega))
    have h2 := h n (by omega)
    rw [tmost]
    omega
theorem tmost_up {T : xT} {s : Nat} : ∀ n, s < n → tmost T n ≤ T.2 1 - bc s + bc (treach T s (T.2 1))
  | 0, h => absurd h (Nat.not_lt_zero s)
  | n + 1, h => by
    rw [tmost]
    by_cases e : s = n
    · subst e; omega
    · have := tmost_up (T := T) (s := s) n (by omega)
      omega
theorem mF5 : ∀ k : Fin 5, bc (2 ^ k.1 - 1) = k.1 ∧ 2 ^ k.1 - 1 < 16 ∧ ∀ s : Fin 16, (s.1 < 2 ^ k.1 → ndif s.1 (2 ^ k.1 - 1) = 0 ∧ bc s.1 ≤ k.1) ∧ (ndif s.1 (2 ^ k.1 - 1) = 0 → s.1 < 2 ^ k.1) := by decide +kernel
theorem most_eq {T : xT} (h4 : T.2 1 ≤ 4) : tmost T (2 ^ T.2 1) = mget (mrs T 6) (2 ^ T.2 1 - 1) := by
  obtain ⟨f1, f2, f3⟩ : bc (2 ^ T.2 1 - 1) = T.2 1 ∧ 2 ^ T.2 1 - 1 < 16 ∧ ∀ s : Fin 16, (s.1 < 2 ^ T.2 1 → ndif s.1 (2 ^ T.2 1 - 1) = 0 ∧ bc s.1 ≤ T.2 1) ∧ (ndif s.1 (2 ^ T.2 1 - 1) = 0 → s.1 < 2 ^ T.2 1) := mF5 ⟨T.2 1, by omega⟩
  have hp := pow16 h4
  obtain ⟨a1, s1, b1, b2, b3⟩ := min_side h4 6 (2 ^ T.2 1 - 1) f2
  have en : ∀ s, nbn T 6 s = bc (treach T s (T.2 1)) := fun s => by unfold nbn; rw [bcn_6]
  rw [f1] at a1 b3
  have hv : mget (mrs T 6) (2 ^ T.2 1 - 1) ≤ T.2 1 := by
    have h := a1 0 (by decide) (by unfold ndif; rw [Nat.zero_or, Nat.xor_self])
    rw [en] at h
    have e0 : ∀ n, treach T 0 n = 0 := by
      intro n
      induction n with
      | zero => rfl
      | succ n ih => rw [treach, Nat.zero_testBit, if_neg (by decide), ih]
    rw [e0] at h
    have : bc 0 = 0 := rfl
    omega
  refine Nat.le_antisymm ?_ ?_
  · have hlt := (f3 ⟨s1, b1⟩).2 b2
    have h := tmost_up (T := T) (s := s1) (2 ^ T.2 1) hlt
    have hb := ((f3 ⟨s1, b1⟩).1 hlt).2
    rw [en] at b3
    have hb : bc s1 ≤ T.2 1 := hb
    omega
  · refine tmost_ge hv _ (fun s hs => ?_)
    have hq := (f3 ⟨s, by omega⟩).1 hs
    have h := a1 s (by omega) hq.1
    have hb : bc s ≤ T.2 1 := hq.2
    rw [en] at h
    omega
/-- one way to rob, as its number spells it -/
def dg (c t : Nat) : Nat := c / 7 ^ t % 7
def mok (T : xT) (c : Nat) : Nat → Bool × Nat
  | 0 => (true, 0)
  | t + 1 => if dg c t < 6 then ((mok T c t).1 && (decide (t < T.2 1) && (decide (dg c t < T.2 0) && (!(mok T c t).2.testBit (dg c t) && tmay T t (dg c t)))), (mok T c t).2 ||| 2 ^ dg c t) else mok T c t
def mM (T : xT) : Nat → Nat
  | 0 => 0
  | c + 1 => if (mok T c 4).1 = true ∧ mM T c < bc (mok T c 4).2 then bc (mok T c 4).2 else mM T c
theorem mok_s (T : xT) (c t : Nat) : mok T c (t + 1) = if dg c t < 6 then ((mok T c t).1 && (decide (t < T.2 1) && (decide (dg c t < T.2 0) && (!(mok T c t).2.testBit (dg c t) && tmay T t (dg c t)))), (mok T c t).2 ||| 2 ^ dg c t) else mok T c t := rfl
theorem mok_lt {T : xT} {c : Nat} : ∀ t, (mok T c t).2 < 64
  | 0 => by show 0 < 64; decide
  | t + 1 => by
    rw [mok_s]
    split
    · rename_i h
      exact Nat.or_lt_two_pow (n := 6) (mok_lt t) (Nat.pow_lt_pow_right (by decide) h)
    · exact mok_lt t
theorem mok_tb {T : xT} {c b : Nat} : ∀ n, (mok T c n).2.testBit b = true ↔ b < 6 ∧ ∃ t, t < n ∧ dg c t = b
  | 0 => by
    show (0 : Nat).testBit b = true ↔ _
    rw [Nat.zero_testBit]
    exact ⟨fun z => (by cases z), fun ⟨_, t, ht, _⟩ => absurd ht (Nat.not_lt_zero t)⟩
  | n + 1 => by
    have ih := mok_tb (T := T) (c := c) (b := b) n
    rw [mok_s]
    by_cases h : dg c n < 6
    · rw [if_pos h, or_bit, Bool.or_eq_true, decide_eq_true_eq, ih]
      constructor
      · rintro (⟨h1, t, h2, h3⟩ | e)
        · exact ⟨h1, t, by omega, h3⟩
        · exact ⟨by omega, n, by omega, e⟩
      · rintro ⟨h1, t, h2, h3⟩
        by_cases e : t = n
        · subst e; exact Or.inr h3
        · exact Or.inl ⟨h1, t, by omega, h3⟩
    · rw [if_neg h, ih]
      constructor
      · rintro ⟨h1, t, h2, h3⟩
        exact ⟨h1, t, by omega, h3⟩
      · rintro ⟨h1, t, h2, h3⟩
        have : t ≠ n := fun e => by subst e; omega
        exact ⟨h1, t, by omega, h3⟩
def mV (T : xT) (c t : Nat) : Prop := dg c t < 6 → (t < T.2 1 ∧ dg c t < T.2 0 ∧ tmay T t (dg c t) = true) ∧ ∀ q, q < t → dg c q ≠ dg c t
theorem mok_1 {T : xT} {c : Nat} : ∀ n, (mok T c n).1 = true ↔ ∀ t, t < n → mV T c t
  | 0 => ⟨fun _ t ht => absurd ht (Nat.not_lt_zero t), fun _ => rfl⟩
  | n + 1 => by
    have ih := mok_1 (T := T) (c := c) n
    rw [mok_s]
    by_cases h : dg c n < 6
    · rw [if_pos h, Bool.and_eq_true, Bool.and_eq_true, Bool.and_eq_true, Bool.and_eq_true, ih, decide_eq_true_eq, decide_eq_true_eq, Bool.not_eq_true']
      have hb : (mok T c n).2.testBit (dg c n) = false ↔ ∀ q, q < n → dg c q ≠ dg c n := by
        constructor
        · intro h1 q hq e
          have := (mok_tb (T := T) (c := c) (b := dg c n) n).mpr ⟨h, q, hq, e⟩
          rw [h1] at this
          cases this
        · intro h1
          cases hx : (mok T c n).2.testBit (dg c n)
          · rfl
          · obtain ⟨_, t, ht, e⟩ := (mok_tb n).mp hx
            exact absurd e (h1 t ht)
      rw [hb]
      constructor
      · rintro ⟨h1, h2, h3, h4, h5⟩ t ht
        by_cases e : t = n
        · subst e; exact fun _ => ⟨⟨h2, h3, h5⟩, h4⟩
        · exact h1 t (by omega)
      · intro h1
        have h2 := h1 n (by omega) h
        exact ⟨fun t ht => h1 t (by omega), h2.1.1, h2.1.2.1, h2.2, h2.1.2.2⟩
    · rw [if_neg h, ih]
      constructor
      · intro h1 t ht
        by_cases e : t = n
        · subst e; exact fun z => absurd z h
        · exact h1 t (by omega)
      · exact fun h1 t ht => h1 t (by omega)
def mct (c : Nat) : Nat → Nat
  | 0 => 0
  | t + 1 => if dg c t < 6 then mct c t + 1 else mct c t
theorem bc_or : ∀ r : Fin 64, ∀ a : Fin 6, r.1.testBit a.1 = false → bc (r.1 ||| 2 ^ a.1) = bc r.1 + 1 := by decide +kernel
theorem mok_bc {T : xT} {c : Nat} : ∀ n, (mok T c n).1 = true → bc (mok T c n).2 = mct c n
  | 0, _ => by show bc 0 = 0; decide
  | n + 1, h => by
    have hv := (mok_1 (n + 1)).mp h
    have h0 : (mok T c n).1 = true := (mok_1 n).mpr (fun t ht => hv t (by omega))
    have ih := mok_bc n h0
    rw [mok_s, mct]
    by_cases hd : dg c n < 6
    · rw [if_pos hd, if_pos hd]
      have hb : (mok T c n).2.testBit (dg c n) = false := by
        cases hx : (mok T c n).2.testBit (dg c n)
        · rfl
        · obtain ⟨_, t, ht, e⟩ := (mok_tb n).mp hx
          exact absurd e ((hv n (by omega) hd).2 t ht)
      have := bc_or ⟨(mok T c n).2, mok_lt n⟩ ⟨dg c n, hd⟩ hb
      have this : bc ((mok T c n).2 ||| 2 ^ dg c n) = bc (mok T c n).2 + 1 := this
      show bc ((mok T c n).2 ||| 2 ^ dg c n) = mct c n + 1
      rw [this, ih]
    · rw [if_neg hd, if_neg hd]
      exact ih
def mds (c j : Nat) : Nat := (if dg c 0 < j then 1 else 0) + (if dg c 1 < j then 2 else 0) + (if dg c 2 < j then 4 else 0) + (if dg c 3 < j then 8 else 0)
theorem mds_lt (c j : Nat) : mds c j < 16 := by
  unfold mds
  split <;> split <;> split <;> split <;> omega
theorem mds_6 (c : Nat) : bc (mds c 6) = mct c 4 := by
  unfold mds mct mct mct mct mct
  split <;> split <;> split <;> split <;> rfl
theorem mF6 : ∀ d : Fin 16, ∀ S : Fin 16, ∀ t : Fin 4, d.1.testBit t.1 = false → ndif (d.1 + 2 ^ t.1) S.1 = 0 → ndif d.1 (ndif S.1 (2 ^ t.1)) = 0 ∧ S.1.testBit t.1 = true ∧ bc (d.1 + 2 ^ t.1) = bc d.1 + 1 ∧ ndif S.1 (2 ^ t.1) < 16 := by decide +kernel
theorem mmx_le (r c S : Nat) : mget r S ≤ mmax r c S ∧ ∀ t, t < 4 → mmx1 r c S t ≤ mmax r c S := by
  unfold mmax
  refine ⟨by omega, fun t ht => ?_⟩
  have hh : t = 0 ∨ t = 1 ∨ t = 2 ∨ t = 3 := by omega
  rcases hh with h | h | h | h <;> subst h <;> omega
theorem mds_one {c j t : Nat} (ht : t < 4) (he : dg c t = j) (hu : ∀ q, q < 4 → q ≠ t → dg c q ≠ j) : mds c (j + 1) = mds c j + 2 ^ t ∧ (mds c j).testBit t = false := by
  have u0 := hu 0 (by omega); have u1 := hu 1 (by omega); have u2 := hu 2 (by omega); have u3 := hu 3 (by omega)
  have hh : t = 0 ∨ t = 1 ∨ t = 2 ∨ t = 3 := by omega
  unfold mds
  rcases hh with h | h | h | h <;> subst h
  · have v1 := u1 (by decide); have v2 := u2 (by decide); have v3 := u3 (by decide)
    rw [if_pos (show dg c 0 < j + 1 by omega), if_neg (show ¬ dg c 0 < j by omega)]
    have e1 : (dg c 1 < j + 1) = (dg c 1 < j) := propext (by omega)
    have e2 : (dg c 2 < j + 1) = (dg c 2 < j) := propext (by omega)
    have e3 : (dg c 3 < j + 1) = (dg c 3 < j) := propext (by omega)
    simp only [e1, e2, e3]
    split <;> split <;> split <;> decide
  · have v1 := u0 (by decide); have v2 := u2 (by decide); have v3 := u3 (by decide)
    rw [if_pos (show dg c 1 < j + 1 by omega), if_neg (show ¬ dg c 1 < j by omega)]
    have e1 : (dg c 0 < j + 1) = (dg c 0 < j) := propext (by omega)
    have e2 : (dg c 2 < j + 1) = (dg c 2 < j) := propext (by omega)
    have e3 : (dg c 3 < j + 1) = (dg c 3 < j) := propext (by omega)
    simp only [e1, e2, e3]
    split <;> split <;> split <;> decide
  · have v1 := u0 (by decide); have v2 := u1 (by decide); have v3 := u3 (by decide)
    rw [if_pos (show dg c 2 < j + 1 by omega), if_neg (show ¬ dg c 2 < j by omega)]
    have e1 : (dg c 0 < j + 1) = (dg c 0 < j) := propext (by omega)
    have e2 : (dg c 1 < j + 1) = (dg c 1 < j) := propext (by omega)
    have e3 : (dg c 3 < j + 1) = (dg c 3 < j) := propext (by omega)
    simp only [e1, e2, e3]
    split <;> split <;> split <;> decide
  · have v1 := u0 (by decide); have v2 := u1 (by decide); have v3 := u2 (by decide)
    rw [if_pos (show dg c 3 < j + 1 by omega), if_neg (show ¬ dg c 3 < j by omega)]
    have e1 : (dg c 0 < j + 1) = (dg c 0 < j) := propext (by omega)
    have e2 : (dg c 1 < j + 1) = (dg c 1 < j) := propext (by omega)
    have e3 : (dg c 2 < j + 1) = (dg c 2 < j) := propext (by omega)
    simp only [e1, e2, e3]
    split <;> split <;> split <;> decide
theorem mds_no {c j : Nat} (hu : ∀ q, q < 4 → dg c q ≠ j) : mds c (j + 1) = mds c j := by
  have u0 := hu 0 (by omega); have u1 := hu 1 (by omega); have u2 := hu 2 (by omega); have u3 := hu 3 (by omega)
  unfold mds
  have e0 : (dg c 0 < j + 1) = (dg c 0 < j) := propext (by omega)
  have e1 : (dg c 1 < j + 1) = (dg c 1 < j) := propext (by omega)
  have e2 : (dg c 2 < j + 1) = (dg c 2 < j) := propext (by omega)
  have e3 : (dg c 3 < j + 1) = (dg c 3 < j) := propext (by omega)
  simp only [e0, e1, e2, e3]
theorem max_up {T : xT} {c : Nat} (h4 : T.2 1 ≤ 4) (hv : ∀ t, t < 4 → mV T c t) : ∀ j, j ≤ 6 → ∀ S, S < 16 → ndif (mds c j) S = 0 → bc (mds c j) ≤ mget (mrs T j) S
  | 0, _, S, hS, _ => by
    have : mds c 0 = 0 := by unfold mds; simp
    rw [this]
    exact Nat.zero_le _
  | j + 1, hj, S, hS, hd => by
    have ih := max_up h4 hv j (by omega)
    rw [(mrs_s h4 j hS).2]
    have hx := mmx_le (mrs T j) (mcl T j) S
    by_cases hex : ∃ t, t < 4 ∧ dg c t = j
    · obtain ⟨t, ht, he⟩ := hex
      have hu : ∀ q, q < 4 → q ≠ t → dg c q ≠ j := fun q hq hne e => by
        rcases Nat.lt_or_gt_of_ne hne with h | h
        · exact (hv t ht (by omega)).2 q h (e.trans he.symm)
        · exact (hv q hq (by omega)).2 t h (he.trans e.symm)
      obtain ⟨e1, e2⟩ := mds_one ht he hu
      rw [e1] at hd ⊢
      obtain ⟨g1, g2, g3, g4⟩ : ndif (mds c j) (ndif S (2 ^ t)) = 0 ∧ S.testBit t = true ∧ bc (mds c j + 2 ^ t) = bc (mds c j) + 1 ∧ ndif S (2 ^ t) < 16 := mF6 ⟨mds c j, mds_lt c j⟩ ⟨S, hS⟩ ⟨t, ht⟩ e2 hd
      have h1 := ih (ndif S (2 ^ t)) g4 g1
      have h2 := hx.2 t ht
      have hV := (hv t ht (by omega)).1
      rw [he] at hV
      have hc : (S &&& mcl T j).testBit t = true := by
        rw [Nat.testBit_and, g2, mcl_tb.mpr ⟨hV.2.1, hV.1, hV.2.2⟩]; rfl
      unfold mmx1 at h2
      rw [if_pos hc] at h2
      omega
    · rw [mds_no (fun q hq e => hex ⟨q, hq, e⟩)] at hd ⊢
      exact Nat.le_trans (ih S hS hd) hx.1
theorem mds_k {T : xT} {c : Nat} (h4 : T.2 1 ≤ 4) (hv : ∀ t, t < 4 → mV T c t) : mds c 6 < 2 ^ T.2 1 := by
  have v0 := hv 0 (by omega); have v1 := hv 1 (by omega); have v2 := hv 2 (by omega); have v3 := hv 3 (by omega)
  have w0 : dg c 0 < 6 → 0 < T.2 1 := fun z => (v0 z).1.1
  have w1 : dg c 1 < 6 → 1 < T.2 1 := fun z => (v1 z).1.1
  have w2 : dg c 2 < 6 → 2 < T.2 1 := fun z => (v2 z).1.1
  have w3 : dg c 3 < 6 → 3 < T.2 1 := fun z => (v3 z).1.1
  clear v0 v1 v2 v3
  generalize T.2 1 = k at *
  have hh : k = 0 ∨ k = 1 ∨ k = 2 ∨ k = 3 ∨ k = 4 := by omega
  unfold mds
  rcases hh with h | h | h | h | h <;> subst h
  · rw [if_neg (by omega), if_neg (by omega), if_neg (by omega), if_neg (by omega)]; decide
  · rw [if_neg (show ¬ dg c 1 < 6 by omega), if_neg (show ¬ dg c 2 < 6 by omega), if_neg (show ¬ dg c 3 < 6 by omega)]; split <;> decide
  · rw [if_neg (show ¬ dg c 2 < 6 by omega), if_neg (show ¬ dg c 3 < 6 by omega)]; split <;> split <;> decide
  · rw [if_neg (show ¬ dg c 3 < 6 by omega)]; split <;> split <;> split <;> decide
  · split <;> split <;> split <;> split <;> decide
theorem code_le {T : xT} {c : Nat} (h4 : T.2 1 ≤ 4) (hv : (mok T c 4).1 = true) : bc (mok T c 4).2 ≤ mget (mrs T 6) (2 ^ T.2 1 - 1) := by
  have hV := (mok_1 4).mp hv
  obtain ⟨f1, f2, f3⟩ : bc (2 ^ T.2 1 - 1) = T.2 1 ∧ 2 ^ T.2 1 - 1 < 16 ∧ ∀ s : Fin 16, (s.1 < 2 ^ T.2 1 → ndif s.1 (2 ^ T.2 1 - 1) = 0 ∧ bc s.1 ≤ T.2 1) ∧ (ndif s.1 (2 ^ T.2 1 - 1) = 0 → s.1 < 2 ^ T.2 1) := mF5 ⟨T.2 1, by omega⟩
  have hd := ((f3 ⟨mds c 6, mds_lt c 6⟩).1 (mds_k h4 hV)).1
  rw [mok_bc 4 hv, ← mds_6]
  exact max_up h4 hV 6 (Nat.le_refl _) _ f2 hd
/-- a way that reaches as many -/
def mP (T : xT) (j S : Nat) (f : Nat → Nat) : Prop := (∀ t, t < 4 → f t = 6 ∨ (f t < j ∧ S.testBit t = true ∧ (mcl T (f t)).testBit t = true)) ∧ (∀ t q, t < 4 → q < 4 → t ≠ q → f t = f q → f t = 6)
def fct (f : Nat → Nat) : Nat := (if f 0 < 6 then 1 else 0) + (if f 1 < 6 then 1 else 0) + (if f 2 < 6 then 1 else 0) + (if f 3 < 6 then 1 else 0)
theorem fct_up {f : Nat → Nat} {t j : Nat} (ht : t < 4) (h6 : f t = 6) (hj : j < 6) : fct (va_up f t j) = fct f + 1 := by
  have hh : t = 0 ∨ t = 1 ∨ t = 2 ∨ t = 3 := by omega
  unfold fct
  rcases hh with h | h | h | h <;> subst h
  · rw [va_up_self, va_up_ne _ _ (by decide), va_up_ne _ _ (by decide), va_up_ne _ _ (by decide), h6, if_pos hj, if_neg (show ¬ 6 < 6 by decide)]; try omega
  · rw [va_up_self, va_up_ne _ _ (by decide), va_up_ne _ _ (by decide), va_up_ne _ _ (by decide), h6, if_pos hj, if_neg (show ¬ 6 < 6 by decide)]; try omega
  · rw [va_up_self, va_up_ne _ _ (by decide), va_up_ne _ _ (by decide), va_up_ne _ _ (by decide), h6, if_pos hj, if_neg (show ¬ 6 < 6 by decide)]; try omega
  · rw [va_up_self, va_up_ne _ _ (by decide), va_up_ne _ _ (by decide), va_up_ne _ _ (by decide), h6, if_pos hj, if_neg (show ¬ 6 < 6 by decide)]; try omega
theorem mP_step {T : xT} {j S t : Nat} {f : Nat → Nat} (hj : j < 6) (ht : t < 4) (hP : mP T j (ndif S (2 ^ t)) f) (hS : S.testBit t = true) (hc : (mcl T j).testBit t = true) : mP T (j + 1) S (va_up f t j) ∧ fct (va_up f t j) = fct f + 1 := by
  have h6 : f t = 6 := by
    rcases hP.1 t ht with h | h
    · exact h
    · have := h.2.1
      rw [ndif_tb, Nat.testBit_two_pow_self] at this
      simp at this
  have hlt : ∀ q, q < 4 → f q ≠ j := fun q hq e => by
    rcases hP.1 q hq with h | h
    · omega
    · omega
  refine ⟨⟨fun q hq => ?_, fun q p hq hp hne e => ?_⟩, fct_up ht h6 hj⟩
  · by_cases e : q = t
    · subst e
      rw [va_up_self]
      exact Or.inr ⟨by omega, hS, hc⟩
    · rw [va_up_ne _ _ e]
      rcases hP.1 q hq with h | h
      · exact Or.inl h
      · have := h.2.1
        rw [ndif_tb, Bool.and_eq_true] at this
        exact Or.inr ⟨by omega, this.1, h.2.2⟩
  · by_cases e1 : q = t
    · subst e1
      rw [va_up_self, va_up_ne _ _ (Ne.symm hne)] at e
      exact absurd e.symm (hlt p hp)
    · rw [va_up_ne _ _ e1] at e ⊢
      by_cases e2 : p = t
      · subst e2
        rw [va_up_self] at e
        exact absurd e (hlt q hq)
      · rw [va_up_ne _ _ e2] at e
        exact hP.2 q p hq hp hne e
theorem mP_mono {T : xT} {j S : Nat} {f : Nat → Nat} (h : mP T j S f) : mP T (j + 1) S f := ⟨fun t ht => by
  rcases h.1 t ht with h1 | h1
  · exact Or.inl h1
  · exact Or.inr ⟨by omega, h1.2⟩, h.2⟩
theorem max_dn {T : xT} (h4 : T.2 1 ≤ 4) : ∀ j, j ≤ 6 → ∀ S, S < 16 → ∃ f, mP T j S f ∧ fct f = mget (mrs T j) S
  | 0, _, S, hS => ⟨fun _ => 6, ⟨fun t _ => Or.inl rfl, fun t q _ _ _ _ => rfl⟩, by
      have e : mget (mrs T 0) S = 0 := mget_0 S
      rw [e]; rfl⟩
  | j + 1, hj, S, hS => by
    have ih := max_dn h4 j (by omega)
    have e := (mrs_s h4 j hS).2
    by_cases h0 : mget (mrs T (j + 1)) S = mget (mrs T j) S
    · obtain ⟨f, h1, h2⟩ := ih S hS
      exact ⟨f, mP_mono h1, h2.trans h0.symm⟩
    · have hx : ∃ t, t < 4 ∧ mget (mrs T (j + 1)) S = mmx1 (mrs T j) (mcl T j) S t := by
        rw [e] at h0 ⊢
        unfold mmax at h0 ⊢
        by_cases q0 : mmx1 (mrs T j) (mcl T j) S 1 ≤ mmx1 (mrs T j) (mcl T j) S 0 ∧ mmx1 (mrs T j) (mcl T j) S 2 ≤ mmx1 (mrs T j) (mcl T j) S 0 ∧ mmx1 (mrs T j) (mcl T j) S 3 ≤ mmx1 (mrs T j) (mcl T j) S 0
        · exact ⟨0, by decide, by omega⟩
        · by_cases q1 : mmx1 (mrs T j) (mcl T j) S 0 ≤ mmx1 (mrs T j) (mcl T j) S 1 ∧ mmx1 (mrs T j) (mcl T j) S 2 ≤ mmx1 (mrs T j) (mcl T j) S 1 ∧ mmx1 (mrs T j) (mcl T j) S 3 ≤ mmx1 (mrs T j) (mcl T j) S 1
          · exact ⟨1, by decide, by omega⟩
          · by_cases q2 : mmx1 (mrs T j) (mcl T j) S 0 ≤ mmx1 (mrs T j) (mcl T j) S 2 ∧ mmx1 (mrs T j) (mcl T j) S 1 ≤ mmx1 (mrs T j) (mcl T j) S 2 ∧ mmx1 (mrs T j) (mcl T j) S 3 ≤ mmx1 (mrs T j) (mcl T j) S 2
            · exact ⟨2, by decide, by omega⟩
            · exact ⟨3, by decide, by omega⟩
      obtain ⟨t, ht, hm⟩ := hx
      have hge : mget (mrs T j) S ≤ mget (mrs T (j + 1)) S := by rw [e]; exact (mmx_le _ _ _).1
      unfold mmx1 at hm
      cases hb : (S &&& mcl T j).testBit t
      · rw [hb, if_neg (by decide)] at hm
        omega
      · rw [hb, if_pos rfl] at hm
        rw [Nat.testBit_and, Bool.and_eq_true] at hb
        have hS2 : ndif S (2 ^ t) < 16 := ndif_lt (n := 4) hS
        obtain ⟨f, h1, h2⟩ := ih (ndif S (2 ^ t)) hS2
        obtain ⟨g1, g2⟩ := mP_step (by omega) ht h1 hb.1 hb.2
        exact ⟨_, g1, by rw [g2, h2, hm]⟩
theorem code_ge {T : xT} (h4 : T.2 1 ≤ 4) : ∃ c, c < 2401 ∧ (mok T c 4).1 = true ∧ bc (mok T c 4).2 = mget (mrs T 6) (2 ^ T.2 1 - 1) := by
  have hp := pow16 h4
  obtain ⟨f, hP, hc⟩ := max_dn h4 6 (Nat.le_refl _) (2 ^ T.2 1 - 1) (by omega)
  have hle : ∀ t, t < 4 → f t ≤ 6 := fun t ht => by
    rcases hP.1 t ht with h | h
    · omega
    · omega
  have l0 := hle 0 (by decide); have l1 := hle 1 (by decide); have l2 := hle 2 (by decide); have l3 := hle 3 (by decide)
  have hdg : ∀ t, t < 4 → dg (f 0 + 7 * f 1 + 49 * f 2 + 343 * f 3) t = f t := fun t ht => by
    have hh : t = 0 ∨ t = 1 ∨ t = 2 ∨ t = 3 := by omega
    unfold dg
    rcases hh with h | h | h | h <;> subst h
    · show (f 0 + 7 * f 1 + 49 * f 2 + 343 * f 3) / 1 % 7 = f 0; omega
    · show (f 0 + 7 * f 1 + 49 * f 2 + 343 * f 3) / 7 % 7 = f 1; omega
    · show (f 0 + 7 * f 1 + 49 * f 2 + 343 * f 3) / 49 % 7 = f 2; omega
    · show (f 0 + 7 * f 1 + 49 * f 2 + 343 * f 3) / 343 % 7 = f 3; omega
  have hV : (mok T (f 0 + 7 * f 1 + 49 * f 2 + 343 * f 3) 4).1 = true := (mok_1 4).mpr (fun t ht hlt => by
    rw [hdg t ht] at hlt ⊢
    rcases hP.1 t ht with h | h
    · omega
    · have hm := mcl_tb.mp h.2.2
      refine ⟨⟨hm.2.1, hm.1, hm.2.2⟩, fun q hq e => ?_⟩
      rw [hdg q (by omega)] at e
      have := hP.2 q t (by omega) ht (by omega) e
      omega)
  refine ⟨f 0 + 7 * f 1 + 49 * f 2 + 343 * f 3, by omega, hV, ?_⟩
  rw [mok_bc 4 hV, ← hc]
  unfold mct mct mct mct mct fct
  rw [hdg 0 (by decide), hdg 1 (by decide), hdg 2 (by decide), hdg 3 (by decide)]
  split <;> split <;> split <;> split <;> rfl
theorem mM_up {T : xT} {v : Nat} (h : ∀ c, (mok T c 4).1 = true → bc (mok T c 4).2 ≤ v) : ∀ n, mM T n ≤ v
  | 0 => Nat.zero_le _
  | n + 1 => by
    rw [mM]
    split
    · rename_i hc
      exact h n hc.1
    · exact mM_up h n
theorem mM_ge {T : xT} {c : Nat} (hv : (mok T c 4).1 = true) : ∀ n, c < n → bc (mok T c 4).2 ≤ mM T n
  | 0, h => absurd h (Nat.not_lt_zero c)
  | n + 1, h => by
    rw [mM]
    by_cases e : c = n
    · subst e
      split
      · exact Nat.le_refl _
      · rename_i hc
        have : ¬ mM T c < bc (mok T c 4).2 := fun z => hc ⟨hv, z⟩
        omega
    · have := mM_ge hv n (by omega)
      split
      · omega
      · exact this
theorem match_eq {T : xT} (h4 : T.2 1 ≤ 4) : mM T 2401 = tmost T (2 ^ T.2 1) := by
  rw [most_eq h4]
  obtain ⟨c, h1, h2, h3⟩ := code_ge h4
  refine Nat.le_antisymm (mM_up (fun c hc => code_le h4 hc) _) ?_
  rw [← h3]
  exact mM_ge h2 _ h1
theorem lt_nI {t n : Nat} (ht : t < 2 ^ 31) (hn : n < 2 ^ 31) : decide (0 ≤ nI t ∧ nI t < nI n) = decide (t < n) := by
  refine decide_eq_decide.mpr ?_
  rw [nI_ltI ht hn]
  exact ⟨fun q => q.2, fun q => ⟨nI_pos' ht, q⟩⟩
theorem dg_div (i t : Nat) : i / 7 ^ t / 7 = i / 7 ^ (t + 1) := by rw [Nat.div_div_eq_div_mul, Nat.pow_succ]
theorem mM_le (T : xT) : ∀ n, mM T n ≤ 6
  | 0 => Nat.zero_le _
  | n + 1 => by
    rw [mM]
    split
    · exact bc_6 _
    · exact mM_le T n
set_option maxHeartbeats 4000000 in
set_option maxRecDepth 100000 in
theorem l_X6_match_22 {E : xE} {h : xHp} {w : Nat} {D : xMd} {O : xO} (hR : Rel O D) {Q : Option Value → xHp → Prop} (i M : Nat) (hi : i < 2401) (kk : PW E mX6_match Q 0 0 115 [some (.ref w), some (.int (nI (M))), some (.int (nI (i))), some (.int (nI (i / 7 ^ 4))), some (.int (nI ((mok (O.1.1 0) i (4)).2))), some (.int (bI (mok (O.1.1 0) i (4)).1)), some (.int (nI (4))), none] [] (MH E h w D)) : ∀ (n t : Nat), t ≤ 4 → 5 ≤ t + n → PW E mX6_match Q 0 0 22 [some (.ref w), some (.int (nI (M))), some (.int (nI (i))), some (.int (nI (i / 7 ^ t))), some (.int (nI ((mok (O.1.1 0) i (t)).2))), some (.int (bI (mok (O.1.1 0) i (t)).1)), some (.int (nI (t))), none] [] (MH E h w D) := by
  have R := hR.1.1
  have hOK := hR.1.2.1.1
  have hm6 := hOK.1.1
  have hm4 := hOK.1.2.1
  have hN9 := hR.1.2.1.2
  intro n
  induction n with
  | zero =>
    intro t h1 h2
    omega
  | succ n ih =>
    intro t h1 h2
    rcases hm : mok (O.1.1 0) i t with ⟨b, rob⟩
    · have hrb : rob < 64 := by have := mok_lt (T := (O.1.1 0)) (c := i) t; rw [hm] at this; exact this
      refine px_eq (lo2 := [some (.ref w), some (.int (nI (M))), some (.int (nI (i))), some (.int (nI (i / 7 ^ t))), some (.int (nI (rob))), some (.int (bI b)), some (.int (nI (t))), none]) rfl rfl rfl ?_
      have hdv := Nat.div_le_self i (7 ^ t)
      refine px_iload dX6_match_22 rfl ?_
      refine px_iconst (v := nI 4) dX6_match_24 (by decide) ?_
      refine px_icmp_geN 115 dX6_match_25 (by decide) (by omega) (by omega) (fun c25 => ?_) (fun c25 => ?_)
      · have hi : t = 4 := by omega
        subst hi
        rw [hm] at kk
        exact kk
      · refine px_iload_n dX6_match_28 rfl ?_
        refine px_bipush (v := nI 7) dX6_match_29 (by decide) ?_
        refine px_iremN dX6_match_31 (by omega) (by omega) (by omega) ?_
        refine px_ist_7 dX6_match_32 (by decide) rfl ?_
        refine px_iload_n dX6_match_34 rfl ?_
        refine px_bipush (v := nI 7) dX6_match_35 (by decide) ?_
        refine px_idivN dX6_match_37 (by omega) (by omega) (by omega) ?_
        refine px_istn_3 dX6_match_38 (by decide) rfl ?_
        refine px_iload dX6_match_39 rfl ?_
        refine px_bipush (v := nI 6) dX6_match_41 (by decide) ?_
        refine px_icmp_geN 109 dX6_match_43 (by decide) (by omega) (by omega) (fun c43 => ?_) (fun c43 => ?_)
        · refine px_inc_6 dX6_match_109 rfl (nI_1 _) (by decide) rfl ?_
          refine px_goto 22 dX6_match_112 (by decide) ?_
          refine px_fg_7 ?_
          refine px_eq (lo2 := [some (.ref w), some (.int (nI (M))), some (.int (nI (i))), some (.int (nI (i / 7 ^ (t + 1)))), some (.int (nI ((mok (O.1.1 0) i (t + 1)).2))), some (.int (bI (mok (O.1.1 0) i (t + 1)).1)), some (.int (nI (t + 1))), none]) ?_ rfl rfl (ih (t + 1) (by omega) (by omega))
          rw [mok_s, if_neg (by unfold dg; omega), hm, dg_div]
        · refine px_iload dX6_match_46 rfl ?_
          refine px_if_eqB 97 dX6_match_48 (by decide) (fun c48 => ?_) (fun c48 => ?_)
          · refine px_iconst (v := nI 0) dX6_match_97 (by decide) ?_
            refine px_ist_5 dX6_match_98 (by decide) rfl ?_
            refine px_iload dX6_match_100 rfl ?_
            refine px_iconst (v := nI 1) dX6_match_102 (by decide) ?_
            refine px_iload dX6_match_103 rfl ?_
            refine px_ishl1 dX6_match_105 (by omega) ?_
            refine px_iorN dX6_match_106 ?_
            refine px_ist_4 dX6_match_107 (by decide) rfl ?_
            refine px_inc_6 dX6_match_109 rfl (nI_1 _) (by decide) rfl ?_
            refine px_goto 22 dX6_match_112 (by decide) ?_
            refine px_fg_7 ?_
            have e0 : nI 0 = bI (b && (decide (t < (O.1.1 0).2 1) && (decide (dg i t < (O.1.1 0).2 0) && (!rob.testBit (dg i t) && tmay (O.1.1 0) t (dg i t))))) := by rw [c48]; rfl
            refine px_eq (lo2 := [some (.ref w), some (.int (nI (M))), some (.int (nI (i))), some (.int (nI (i / 7 ^ (t + 1)))), some (.int (nI ((mok (O.1.1 0) i (t + 1)).2))), some (.int (bI (mok (O.1.1 0) i (t + 1)).1)), some (.int (nI (t + 1))), none]) ?_ rfl rfl (ih (t + 1) (by omega) (by omega))
            rw [mok_s, if_pos (show dg i t < 6 by unfold dg; omega), hm, e0, dg_div]
            rfl
          · refine px_aload_n dX6_match_51 rfl ?_
            refine px_iload dX6_match_52 rfl ?_
            refine px_vi (M2 := mX6_isThief) (c_X6_isThief R hOK (nI t)) mw_X6_isThief wm_X6_isThief we_X6_isThief (Or.inl ml_X6_66) dX6_match_54 (MH_obj) rfl (by decide) rfl rfl (Nat.le_of_ble_eq_true rfl) ⟨rfl, rfl⟩ ?_
            refine px_topi (congrArg bI (lt_nI (by omega) (by omega))) ?_
            refine px_if_eqB 97 dX6_match_57 (by decide) (fun c57 => ?_) (fun c57 => ?_)
            · refine px_iconst (v := nI 0) dX6_match_97 (by decide) ?_
              refine px_ist_5 dX6_match_98 (by decide) rfl ?_
              refine px_iload dX6_match_100 rfl ?_
              refine px_iconst (v := nI 1) dX6_match_102 (by decide) ?_
              refine px_iload dX6_match_103 rfl ?_
              refine px_ishl1 dX6_match_105 (by omega) ?_
              refine px_iorN dX6_match_106 ?_
              refine px_ist_4 dX6_match_107 (by decide) rfl ?_
              refine px_inc_6 dX6_match_109 rfl (nI_1 _) (by decide) rfl ?_
              refine px_goto 22 dX6_match_112 (by decide) ?_
              refine px_fg_7 ?_
              have e0 : nI 0 = bI (b && (decide (t < (O.1.1 0).2 1) && (decide (dg i t < (O.1.1 0).2 0) && (!rob.testBit (dg i t) && tmay (O.1.1 0) t (dg i t))))) := by rw [c57, Bool.false_and, Bool.and_false]; rfl
              refine px_eq (lo2 := [some (.ref w), some (.int (nI (M))), some (.int (nI (i))), some (.int (nI (i / 7 ^ (t + 1)))), some (.int (nI ((mok (O.1.1 0) i (t + 1)).2))), some (.int (bI (mok (O.1.1 0) i (t + 1)).1)), some (.int (nI (t + 1))), none]) ?_ rfl rfl (ih (t + 1) (by omega) (by omega))
              rw [mok_s, if_pos (show dg i t < 6 by unfold dg; omega), hm, e0, dg_div]
              rfl
            · refine px_aload_n dX6_match_60 rfl ?_
              refine px_iload dX6_match_61 rfl ?_
              refine px_vi (M2 := mX6_isOne) (c_X6_isOne R hOK (nI (i / 7 ^ t % 7))) mw_X6_isOne wm_X6_isOne we_X6_isOne (Or.inl ml_X6_58) dX6_match_63 (MH_obj) rfl (by decide) rfl rfl (Nat.le_of_ble_eq_true rfl) ⟨rfl, rfl⟩ ?_
              refine px_topi (congrArg bI (lt_nI (by omega) (by omega))) ?_
              refine px_if_eqB 97 dX6_match_66 (by decide) (fun c66 => ?_) (fun c66 => ?_)
              · refine px_iconst (v := nI 0) dX6_match_97 (by decide) ?_
                refine px_ist_5 dX6_match_98 (by decide) rfl ?_
                refine px_iload dX6_match_100 rfl ?_
                refine px_iconst (v := nI 1) dX6_match_102 (by decide) ?_
                refine px_iload dX6_match_103 rfl ?_
                refine px_ishl1 dX6_match_105 (by omega) ?_
                refine px_iorN dX6_match_106 ?_
                refine px_ist_4 dX6_match_107 (by decide) rfl ?_
                refine px_inc_6 dX6_match_109 rfl (nI_1 _) (by decide) rfl ?_
                refine px_goto 22 dX6_match_112 (by decide) ?_
                refine px_fg_7 ?_
                have e0 : nI 0 = bI (b && (decide (t < (O.1.1 0).2 1) && (decide (dg i t < (O.1.1 0).2 0) && (!rob.testBit (dg i t) && tmay (O.1.1 0) t (dg i t))))) := by rw [show decide (dg i t < (O.1.1 0).2 0) = false from c66, Bool.false_and, Bool.and_false, Bool.and_false]; rfl
                refine px_eq (lo2 := [some (.ref w), some (.int (nI (M))), some (.int (nI (i))), some (.int (nI (i / 7 ^ (t + 1)))), some (.int (nI ((mok (O.1.1 0) i (t + 1)).2))), some (.int (bI (mok (O.1.1 0) i (t + 1)).1)), some (.int (nI (t + 1))), none]) ?_ rfl rfl (ih (t + 1) (by omega) (by omega))
                rw [mok_s, if_pos (show dg i t < 6 by unfold dg; omega), hm, e0, dg_div]
                rfl
              · refine px_iload dX6_match_69 rfl ?_
                refine px_iload dX6_match_71 rfl ?_
                refine px_si (c_X6_has_n rob (i / 7 ^ t % 7) (by omega) (by omega)) mw_X6_has wt_X6_has (Or.inl ml_X6_50) dX6_match_73 (by decide) rfl rfl (Nat.le_of_ble_eq_true rfl) ⟨rfl, rfl⟩ ?_
                refine px_if_neB 97 dX6_match_76 (by decide) (fun c76 => ?_) (fun c76 => ?_)
                · refine px_iconst (v := nI 0) dX6_match_97 (by decide) ?_
                  refine px_ist_5 dX6_match_98 (by decide) rfl ?_
                  refine px_iload dX6_match_100 rfl ?_
                  refine px_iconst (v := nI 1) dX6_match_102 (by decide) ?_
                  refine px_iload dX6_match_103 rfl ?_
                  refine px_ishl1 dX6_match_105 (by omega) ?_
                  refine px_iorN dX6_match_106 ?_
                  refine px_ist_4 dX6_match_107 (by decide) rfl ?_
                  refine px_inc_6 dX6_match_109 rfl (nI_1 _) (by decide) rfl ?_
                  refine px_goto 22 dX6_match_112 (by decide) ?_
                  refine px_fg_7 ?_
                  have e0 : nI 0 = bI (b && (decide (t < (O.1.1 0).2 1) && (decide (dg i t < (O.1.1 0).2 0) && (!rob.testBit (dg i t) && tmay (O.1.1 0) t (dg i t))))) := by rw [show rob.testBit (dg i t) = true from c76, Bool.not_true, Bool.false_and, Bool.and_false, Bool.and_false, Bool.and_false]; rfl
                  refine px_eq (lo2 := [some (.ref w), some (.int (nI (M))), some (.int (nI (i))), some (.int (nI (i / 7 ^ (t + 1)))), some (.int (nI ((mok (O.1.1 0) i (t + 1)).2))), some (.int (bI (mok (O.1.1 0) i (t + 1)).1)), some (.int (nI (t + 1))), none]) ?_ rfl rfl (ih (t + 1) (by omega) (by omega))
                  rw [mok_s, if_pos (show dg i t < 6 by unfold dg; omega), hm, e0, dg_div]
                  rfl
                · refine px_aload_n dX6_match_79 rfl ?_
                  refine px_get xk_X6 7 dX6_match_80 (Or.inl fl_X6_23) MH_obj (by decide) rfl ?_
                  refine px_iload dX6_match_83 rfl ?_
                  refine px_iload dX6_match_85 rfl ?_
                  refine px_si (c_X6_mayRob (k := 0) (by decide) rfl R hOK t (i / 7 ^ t % 7) (of_decide_eq_true c57) (of_decide_eq_true c66)) mw_X6_mayRob wt_X6_mayRob (Or.inl ml_X6_54) dX6_match_87 (by decide) rfl rfl (Nat.le_of_ble_eq_true rfl) ⟨rfl, rfl⟩ ?_
                  refine px_if_eqB 97 dX6_match_90 (by decide) (fun c90 => ?_) (fun c90 => ?_)
                  · refine px_iconst (v := nI 0) dX6_match_97 (by decide) ?_
                    refine px_ist_5 dX6_match_98 (by decide) rfl ?_
                    refine px_iload dX6_match_100 rfl ?_
                    refine px_iconst (v := nI 1) dX6_match_102 (by decide) ?_
                    refine px_iload dX6_match_103 rfl ?_
                    refine px_ishl1 dX6_match_105 (by omega) ?_
                    refine px_iorN dX6_match_106 ?_
                    refine px_ist_4 dX6_match_107 (by decide) rfl ?_
                    refine px_inc_6 dX6_match_109 rfl (nI_1 _) (by decide) rfl ?_
                    refine px_goto 22 dX6_match_112 (by decide) ?_
                    refine px_fg_7 ?_
                    have e0 : nI 0 = bI (b && (decide (t < (O.1.1 0).2 1) && (decide (dg i t < (O.1.1 0).2 0) && (!rob.testBit (dg i t) && tmay (O.1.1 0) t (dg i t))))) := by rw [show tmay (O.1.1 0) t (dg i t) = false from c90, Bool.and_false, Bool.and_false, Bool.and_false, Bool.and_false]; rfl
                    refine px_eq (lo2 := [some (.ref w), some (.int (nI (M))), some (.int (nI (i))), some (.int (nI (i / 7 ^ (t + 1)))), some (.int (nI ((mok (O.1.1 0) i (t + 1)).2))), some (.int (bI (mok (O.1.1 0) i (t + 1)).1)), some (.int (nI (t + 1))), none]) ?_ rfl rfl (ih (t + 1) (by omega) (by omega))
                    rw [mok_s, if_pos (show dg i t < 6 by unfold dg; omega), hm, e0, dg_div]
                    rfl
                  · refine px_iconst (v := nI 1) dX6_match_93 (by decide) ?_
                    refine px_goto 98 dX6_match_94 (by decide) ?_
                    refine px_ist_5 dX6_match_98 (by decide) rfl ?_
                    refine px_iload dX6_match_100 rfl ?_
                    refine px_iconst (v := nI 1) dX6_match_102 (by decide) ?_
                    refine px_iload dX6_match_103 rfl ?_
                    refine px_ishl1 dX6_match_105 (by omega) ?_
                    refine px_iorN dX6_match_106 ?_
                    refine px_ist_4 dX6_match_107 (by decide) rfl ?_
                    refine px_inc_6 dX6_match_109 rfl (nI_1 _) (by decide) rfl ?_
                    refine px_goto 22 dX6_match_112 (by decide) ?_
                    refine px_fg_7 ?_
                    have e0 : nI 1 = bI (b && (decide (t < (O.1.1 0).2 1) && (decide (dg i t < (O.1.1 0).2 0) && (!rob.testBit (dg i t) && tmay (O.1.1 0) t (dg i t))))) := by rw [c48, c57, show decide (dg i t < (O.1.1 0).2 0) = true from c66, show rob.testBit (dg i t) = false from c76, show tmay (O.1.1 0) t (dg i t) = true from c90]; rfl
                    refine px_eq (lo2 := [some (.ref w), some (.int (nI (M))), some (.int (nI (i))), some (.int (nI (i / 7 ^ (t + 1)))), some (.int (nI ((mok (O.1.1 0) i (t + 1)).2))), some (.int (bI (mok (O.1.1 0) i (t + 1)).1)), some (.int (nI (t + 1))), none]) ?_ rfl rfl (ih (t + 1) (by omega) (by omega))
                    rw [mok_s, if_pos (show dg i t < 6 by unfold dg; omega), hm, e0, dg_div]
                    rfl
set_option maxHeartbeats 4000000 in
set_option maxRecDepth 100000 in
theorem l_X6_match {E : xE} {h : xHp} {w : Nat} {D : xMd} {O : xO} (hR : Rel O D) : ∀ (n i : Nat), i ≤ 2401 → 2402 ≤ i + n → PW E mX6_match (fun v h1 => v = some (.int (nI (tmost (O.1.1 0) (2 ^ (O.1.1 0).2 1)))) ∧ ∃ D', Rel O D' ∧ h1 = MH E h w D') 0 0 4 [some (.ref w), some (.int (nI (mM (O.1.1 0) i))), some (.int (nI (i))), none, none, none, none, none] [] (MH E h w D) := by
  have R := hR.1.1
  have hOK := hR.1.2.1.1
  have hm6 := hOK.1.1
  have hm4 := hOK.1.2.1
  have hN9 := hR.1.2.1.2
  intro n
  induction n with
  | zero =>
    intro i h1 h2
    omega
  | succ n ih =>
    intro i h1 h2
    refine px_iload_n dX6_match_4 rfl ?_
    refine px_sipush (v := nI 2401) dX6_match_5 (by decide) ?_
    refine px_icmp_geN 145 dX6_match_8 (by decide) (by omega) (by omega) (fun c8 => ?_) (fun c8 => ?_)
    · refine px_iload_n dX6_match_145 rfl ?_
      have hi : i = 2401 := by omega
      subst hi
      exact px_iret dX6_match_146 rfl rfl rfl ⟨(by rw [← match_eq hm4]), D, hR, rfl⟩
    · refine px_iload_n dX6_match_11 rfl ?_
      refine px_istn_3 dX6_match_12 (by decide) rfl ?_
      refine px_iconst (v := nI 0) dX6_match_13 (by decide) ?_
      refine px_ist_4 dX6_match_14 (by decide) rfl ?_
      refine px_iconst (v := nI 1) dX6_match_16 (by decide) ?_
      refine px_ist_5 dX6_match_17 (by decide) rfl ?_
      refine px_iconst (v := nI 0) dX6_match_19 (by decide) ?_
      refine px_ist_6 dX6_match_20 (by decide) rfl ?_
      refine px_eq (lo2 := [some (.ref w), some (.int (nI (mM (O.1.1 0) i))), some (.int (nI (i))), some (.int (nI (i / 7 ^ 0))), some (.int (nI ((mok (O.1.1 0) i (0)).2))), some (.int (bI (mok (O.1.1 0) i (0)).1)), some (.int (nI (0))), none]) (by rw [Nat.pow_zero, Nat.div_one]; rfl) rfl rfl ?_
      refine l_X6_match_22 hR i _ (by omega) ?_ 5 0 (by omega) (by omega)
      refine px_iload dX6_match_115 rfl ?_
      refine px_if_eqB 137 dX6_match_117 (by decide) (fun c117 => ?_) (fun c117 => ?_)
      · refine px_iload_n dX6_match_137 rfl ?_
        refine px_istn_1 dX6_match_138 (by decide) rfl ?_
        refine px_inc_2 dX6_match_139 rfl (nI_1 _) (by decide) rfl ?_
        refine px_goto 4 dX6_match_142 (by decide) ?_
        refine px_fg_6 ?_
        refine px_fg_5 ?_
        refine px_fg_4 ?_
        refine px_fg_3 ?_
        refine px_eq (lo2 := [some (.ref w), some (.int (nI (mM (O.1.1 0) (i + 1)))), some (.int (nI (i + 1))), none, none, none, none, none]) ?_ rfl rfl (ih (i + 1) (by omega) (by omega))
        rw [mM, if_neg (fun z => by rw [c117] at z; cases z.1)]
      · refine px_iload dX6_match_120 rfl ?_
        refine px_si (c_X6_bits (mok (O.1.1 0) i 4).2 (mok_lt 4)) mw_X6_bits wt_X6_bits (Or.inl ml_X6_152) dX6_match_122 (by decide) rfl rfl (Nat.le_of_ble_eq_true rfl) ⟨rfl, rfl⟩ ?_
        refine px_iload_n dX6_match_125 rfl ?_
        refine px_icmp_leN 137 dX6_match_126 (by decide) (by first | omega | (have := mM_le (O.1.1 0) i; have := bc_6 (mok (O.1.1 0) i 4).2; omega)) (by first | omega | (have := mM_le (O.1.1 0) i; have := bc_6 (mok (O.1.1 0) i 4).2; omega)) (fun c126 => ?_) (fun c126 => ?_)
        · refine px_iload_n dX6_match_137 rfl ?_
          refine px_istn_1 dX6_match_138 (by decide) rfl ?_
          refine px_inc_2 dX6_match_139 rfl (nI_1 _) (by decide) rfl ?_
          refine px_goto 4 dX6_match_142 (by decide) ?_
          refine px_fg_6 ?_
          refine px_fg_5 ?_
          refine px_fg_4 ?_
          refine px_fg_3 ?_
          refine px_eq (lo2 := [some (.ref w), some (.int (nI (mM (O.1.1 0) (i + 1)))), some (.int (nI (i + 1))), none, none, none, none, none]) ?_ rfl rfl (ih (i + 1) (by omega) (by omega))
          rw [mM, if_neg (fun z => by have := z.2; omega)]
        · refine px_iload dX6_match_129 rfl ?_
          refine px_si (c_X6_bits (mok (O.1.1 0) i 4).2 (mok_lt 4)) mw_X6_bits wt_X6_bits (Or.inl ml_X6_152) dX6_match_131 (by decide) rfl rfl (Nat.le_of_ble_eq_true rfl) ⟨rfl, rfl⟩ ?_
          refine px_goto 138 dX6_match_134 (by decide) ?_
          refine px_istn_1 dX6_match_138 (by decide) rfl ?_
          refine px_inc_2 dX6_match_139 rfl (nI_1 _) (by decide) rfl ?_
          refine px_goto 4 dX6_match_142 (by decide) ?_
          refine px_fg_6 ?_
          refine px_fg_5 ?_
          refine px_fg_4 ?_
          refine px_fg_3 ?_
          refine px_eq (lo2 := [some (.ref w), some (.int (nI (mM (O.1.1 0) (i + 1)))), some (.int (nI (i + 1))), none, none, none, none, none]) ?_ rfl rfl (ih (i + 1) (by omega) (by omega))
          rw [mM, if_pos ⟨c117, c126⟩]
set_option maxHeartbeats 4000000 in
set_option maxRecDepth 100000 in
theorem c_X6_match {E : xE} {h : xHp} {w : Nat} {D : xMd} {O : xO} (hR : Rel O D)  : PMX E mX6_match [.ref w] h w D (nI (tmost (O.1.1 0) (2 ^ (O.1.1 0).2 1))) O := by
  have R := hR.1.1
  have hOK := hR.1.2.1.1
  have hm6 := hOK.1.1
  have hm4 := hOK.1.2.1
  have hN9 := hR.1.2.1.2
  refine pm_of [some (.ref w), none, none, none, none, none, none, none] (by decide +kernel) (Nat.le_of_ble_eq_true rfl) rfl ?_
  refine px_iconst (v := nI 0) dX6_match_0 (by decide) ?_
  refine px_istn_1 dX6_match_1 (by decide) rfl ?_
  refine px_iconst (v := nI 0) dX6_match_2 (by decide) ?_
  refine px_istn_2 dX6_match_3 (by decide) rfl ?_
  exact l_X6_match hR 2402 0 (by omega) (by omega)
