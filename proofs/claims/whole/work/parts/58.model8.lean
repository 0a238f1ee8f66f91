/-! ===== hiding ===== -/
theorem tSS_self (T : xT) (j : Nat) : tSS T j (T.2 j) = T := by
  unfold tSS
  refine Prod.ext rfl ?_
  funext q
  show (if q = j then T.2 j else T.2 q) = T.2 q
  by_cases h : q = j
  · rw [if_pos h, h]
  · rw [if_neg h]
theorem tSS_twice (T : xT) (j u v : Nat) : tSS (tSS T j u) j v = tSS T j v := by
  unfold tSS
  refine Prod.ext rfl ?_
  funext q
  show (if q = j then v else if q = j then u else T.2 q) = if q = j then v else T.2 q
  by_cases h : q = j
  · rw [if_pos h, if_pos h]
  · rw [if_neg h, if_neg h, if_neg h]
theorem ndif_ndif (s b : Nat) : ndif (ndif s b) b = ndif s b := by
  apply Nat.eq_of_testBit_eq
  intro i
  rw [ndif_tb, ndif_tb]
  cases s.testBit i <;> cases b.testBit i <;> rfl
theorem ndif_or (s b : Nat) : ndif s b ||| b = s ||| b := by
  apply Nat.eq_of_testBit_eq
  intro i
  rw [Nat.testBit_or, Nat.testBit_or, ndif_tb]
  cases s.testBit i <;> cases b.testBit i <;> rfl
theorem or_or_self (s b : Nat) : (s ||| b) ||| b = s ||| b := by
  apply Nat.eq_of_testBit_eq
  intro i
  rw [Nat.testBit_or, Nat.testBit_or]
  cases s.testBit i <;> cases b.testBit i <;> rfl
theorem tshow_ff (T : xT) (a : Nat) : tshow (tshow T a false) a false = tshow T a false := by
  show tSS (tSS T 2 (ndif (T.2 2) (2 ^ a))) 2 (ndif (ndif (T.2 2) (2 ^ a)) (2 ^ a)) = tSS T 2 (ndif (T.2 2) (2 ^ a))
  rw [ndif_ndif, tSS_twice]
theorem tshow_ft (T : xT) (a : Nat) : tshow (tshow T a false) a true = tshow T a true := by
  show tSS (tSS T 2 (ndif (T.2 2) (2 ^ a))) 2 (ndif (T.2 2) (2 ^ a) ||| 2 ^ a) = tSS T 2 (T.2 2 ||| 2 ^ a)
  rw [ndif_or, tSS_twice]
theorem tnights_2 {T : xT} {hm : Nat → Bool} : ∀ n, (tnights T hm n).2 2 = T.2 2
  | 0 => rfl
  | n + 1 => by
    show (tpass (tnights T hm n) hm).2 2 = T.2 2
    rw [tpass_s.2.2.1, tnights_2 n]
theorem tshow_nf (T : xT) (a n : Nat) : tshow (tnights (tshow T a false) hm0 n) a false = tnights (tshow T a false) hm0 n := by
  have e : (tnights (tshow T a false) hm0 n).2 2 = ndif (T.2 2) (2 ^ a) := tnights_2 n
  have e2 : tshow (tnights (tshow T a false) hm0 n) a false = tSS (tnights (tshow T a false) hm0 n) 2 ((tnights (tshow T a false) hm0 n).2 2) := by
    show tSS (tnights (tshow T a false) hm0 n) 2 (ndif ((tnights (tshow T a false) hm0 n).2 2) (2 ^ a)) = _
    rw [e, ndif_ndif]
  rw [e2, tSS_self]
theorem tshow_nt (T : xT) (a n : Nat) : tshow (tnights (tshow T a true) hm0 n) a true = tnights (tshow T a true) hm0 n := by
  have e : (tnights (tshow T a true) hm0 n).2 2 = T.2 2 ||| 2 ^ a := tnights_2 n
  have e2 : tshow (tnights (tshow T a true) hm0 n) a true = tSS (tnights (tshow T a true) hm0 n) 2 ((tnights (tshow T a true) hm0 n).2 2) := by
    show tSS (tnights (tshow T a true) hm0 n) 2 ((tnights (tshow T a true) hm0 n).2 2 ||| 2 ^ a) = _
    rw [e, or_or_self]
  rw [e2, tSS_self]
theorem thid_a {T : xT} {a hid : Nat} : ∀ n, n ≤ hid → tshow (thid T a hid n) a false = tnights (tshow T a false) hm0 n
  | 0, _ => rfl
  | n + 1, h => by
    have e : thid T a hid (n + 1) = tnights (tshow T a false) hm0 (n + 1) := by
      show tpass (tshow (thid T a hid n) a (decide (hid ≤ n))) hm0 = tpass (tnights (tshow T a false) hm0 n) hm0
      rw [decide_eq_false (by omega), thid_a n (by omega)]
    rw [e, tshow_nf]
theorem thid_a1 {T : xT} {a hid n : Nat} (h1 : 1 ≤ n) (h : n ≤ hid) : thid T a hid n = tnights (tshow T a false) hm0 n := by
  obtain ⟨m, rfl⟩ : ∃ m, n = m + 1 := ⟨n - 1, by omega⟩
  show tpass (tshow (thid T a hid m) a (decide (hid ≤ m))) hm0 = tpass (tnights (tshow T a false) hm0 m) hm0
  rw [decide_eq_false (by omega), thid_a m (by omega)]
def tHU (T : xT) (a hid : Nat) : xT := tshow (tnights (tshow T a false) hm0 hid) a true
theorem thid_b {T : xT} {a hid : Nat} : ∀ m, tshow (thid T a hid (hid + m)) a true = tnights (tHU T a hid) hm0 m
  | 0 => by
    show tshow (thid T a hid hid) a true = tshow (tnights (tshow T a false) hm0 hid) a true
    rw [← thid_a hid (Nat.le_refl _), tshow_ft]
  | m + 1 => by
    have e : thid T a hid (hid + (m + 1)) = tnights (tHU T a hid) hm0 (m + 1) := by
      show tpass (tshow (thid T a hid (hid + m)) a (decide (hid ≤ hid + m))) hm0 = tpass (tnights (tHU T a hid) hm0 m) hm0
      rw [decide_eq_true (by omega), thid_b m]
    rw [e]
    exact tshow_nt _ _ _
theorem thid_b1 {T : xT} {a hid m : Nat} : thid T a hid (hid + (m + 1)) = tnights (tHU T a hid) hm0 (m + 1) := by
  show tpass (tshow (thid T a hid (hid + m)) a (decide (hid ≤ hid + m))) hm0 = tpass (tnights (tHU T a hid) hm0 m) hm0
  rw [decide_eq_true (by omega), thid_b m]
theorem trob_may {T : xT} {hm : Nat → Bool} : ∀ {n b : Nat}, (trob T hm n).testBit b = true → ∃ t, tmay T t b = true
  | 0, b, h => by rw [trob, Nat.zero_testBit] at h; cases h
  | n + 1, b, h => by
    rw [trob] at h
    split at h
    · exact trob_may h
    · split at h
      · exact trob_may h
      · rename_i a ha
        rw [or_bit] at h
        by_cases hab : a = b
        · subst hab; exact ⟨_, (tvic_nr ha).2.1⟩
        · simp only [hab, decide_false, Bool.or_false] at h
          exact trob_may h
theorem tpass_hid {T : xT} {hm : Nat → Bool} {a : Nat} (h : (T.2 2).testBit a = false) : ((tpass T hm).2 3).testBit a = (T.2 3).testBit a := by
  show ((tsteps T (trob T hm (T.2 1)) (T.2 0)).2 3).testBit a = _
  rw [(tsteps_p (T := T) (R := trob T hm (T.2 1)) (T.2 0)).1 a]
  have : (trob T hm (T.2 1)).testBit a = false := by
    cases hq : (trob T hm (T.2 1)).testBit a
    · rfl
    · obtain ⟨t, ht⟩ := trob_may hq
      unfold tmay at ht
      rw [h] at ht
      simp at ht
  rw [this]
  simp
theorem tnights_hid {T : xT} {hm : Nat → Bool} {a : Nat} (h : (T.2 2).testBit a = false) : ∀ n, ((tnights T hm n).2 3).testBit a = (T.2 3).testBit a
  | 0 => rfl
  | n + 1 => by
    show ((tpass (tnights T hm n) hm).2 3).testBit a = _
    rw [tpass_hid (by rw [tnights_2]; exact h), tnights_hid h n]
theorem tshow_f0 (T : xT) (a : Nat) : ((tshow T a false).2 2).testBit a = false := by
  show (ndif (T.2 2) (2 ^ a)).testBit a = false
  rw [ndif_tb, Nat.testBit_two_pow]
  simp
theorem ffrom_skip {p : Nat → Bool} : ∀ {d f i : Nat}, (∀ n, i ≤ n → n < i + d → p n = false) → ffrom p (f + d) i = ffrom p f (i + d)
  | 0, f, i, _ => rfl
  | d + 1, f, i, h => by
    rw [show f + (d + 1) = (f + d) + 1 by omega, ffrom_n (h i (Nat.le_refl _) (by omega)), ffrom_skip (d := d) (fun n h1 h2 => h n (by omega) (by omega)), show i + 1 + d = i + (d + 1) by omega]
theorem ffrom_cong {p q : Nat → Bool} : ∀ {f i : Nat}, (∀ n, i ≤ n → p n = q n) → ffrom p f i = ffrom q f i
  | 0, _, _ => rfl
  | f + 1, i, h => by
    have e := h i (Nat.le_refl _)
    have e2 : ffrom p f (i + 1) = ffrom q f (i + 1) := ffrom_cong (fun n hn => h n (by omega))
    rw [ffrom, ffrom, e, e2]
theorem ffrom_cut {p : Nat → Bool} : ∀ {f d i : Nat}, ffrom p f i = match ffrom p (f + d) i with | none => none | some n => if n < i + f then some n else none
  | 0, d, i => by
    cases hq : ffrom p (0 + d) i with
    | none => rfl
    | some n =>
      have := ffrom_lt hq
      show none = if n < i + 0 then some n else none
      rw [if_neg (by omega)]
  | f + 1, d, i => by
    rw [show f + 1 + d = (f + d) + 1 by omega]
    cases hp : p i
    · rw [ffrom_n hp, ffrom_n hp, ffrom_cut (f := f) (d := d) (i := i + 1)]
      cases ffrom p (f + d) (i + 1) with
      | none => rfl
      | some n =>
        show (if n < i + 1 + f then some n else none) = if n < i + (f + 1) then some n else none
        rw [show i + 1 + f = i + (f + 1) by omega]
    · rw [ffrom_y hp, ffrom_y hp]
      show some i = if i < i + (f + 1) then some i else none
      rw [if_pos (by omega)]
theorem hid_eq {T : xT} {a hid : Nat} (hs : (T.2 3).testBit a = false) (hh : hid ≤ 20) : ffrom (pFr (tHU T a hid) a hid) (100 - hid) hid = ffrom (pHd T a hid) 99 1 := by
  have hz : ∀ n, ((tnights (tshow T a false) hm0 n).2 3).testBit a = false := fun n => by
    rw [tnights_hid (tshow_f0 T a)]; exact hs
  have e1 : ffrom (pHd T a hid) ((99 - hid) + hid) 1 = ffrom (pHd T a hid) (99 - hid) (1 + hid) := ffrom_skip (fun n h1 h2 => by
    show ((thid T a hid n).2 3).testBit a = false
    rw [thid_a1 h1 (by omega)]
    exact hz n)
  rw [show 99 - hid + hid = 99 by omega] at e1
  have e2 : ffrom (pFr (tHU T a hid) a hid) ((99 - hid) + 1) hid = ffrom (pFr (tHU T a hid) a hid) (99 - hid) (hid + 1) := ffrom_n (by
    show ((tnights (tHU T a hid) hm0 (hid - hid)).2 3).testBit a = false
    rw [Nat.sub_self]
    exact hz hid)
  rw [show 99 - hid + 1 = 100 - hid by omega] at e2
  rw [e1, e2, Nat.add_comm 1 hid]
  refine ffrom_cong (fun n hn => ?_)
  obtain ⟨m, rfl⟩ : ∃ m, n = hid + (m + 1) := ⟨n - hid - 1, by omega⟩
  show ((tnights (tHU T a hid) hm0 (hid + (m + 1) - hid)).2 3).testBit a = ((thid T a hid (hid + (m + 1))).2 3).testBit a
  rw [Nat.add_sub_cancel_left, thid_b1]
theorem tbst_s (T : xT) (a k : Nat) : tbst T a (k + 1) = match ffrom (pHd T a k) ((tbst T a k).2 - 1) 1 with | none => tbst T a k | some n => (some k, n) := rfl
theorem tbst_c (T : xT) (a k : Nat) : ffrom (pHd T a k) ((tbst T a k).2 - 1) 1 = match ffrom (pHd T a k) 99 1 with | none => none | some n => if n < (tbst T a k).2 then some n else none := by
  have hb := tbst_b (T := T) (a := a) k
  have := ffrom_cut (p := pHd T a k) (f := (tbst T a k).2 - 1) (d := 99 - ((tbst T a k).2 - 1)) (i := 1)
  rw [show (tbst T a k).2 - 1 + (99 - ((tbst T a k).2 - 1)) = 99 by omega, show 1 + ((tbst T a k).2 - 1) = (tbst T a k).2 by omega] at this
  exact this
theorem tbst_n0 {T : xT} {a k : Nat} (h : ffrom (pHd T a k) 99 1 = none) : tbst T a (k + 1) = tbst T a k := by
  rw [tbst_s, tbst_c, h]
theorem tbst_n1 {T : xT} {a k n : Nat} (h : ffrom (pHd T a k) 99 1 = some n) (h2 : (tbst T a k).2 ≤ n) : tbst T a (k + 1) = tbst T a k := by
  rw [tbst_s, tbst_c, h]
  simp only [if_neg (Nat.not_lt.mpr h2)]
theorem tbst_y {T : xT} {a k n : Nat} (h : ffrom (pHd T a k) 99 1 = some n) (h2 : n < (tbst T a k).2) : tbst T a (k + 1) = (some k, n) := by
  rw [tbst_s, tbst_c, h]
  simp only [if_pos h2]
theorem tbst_none {T : xT} {a : Nat} : ∀ k, (tbst T a k).1 = none → (tbst T a k).2 = 100
  | 0, _ => rfl
  | k + 1, h => by
    rw [tbst_s] at h ⊢
    cases hq : ffrom (pHd T a k) ((tbst T a k).2 - 1) 1 with
    | none => rw [hq] at h; exact tbst_none k h
    | some n => rw [hq] at h; cases h
def tbF (q : Option Nat × Nat) : Int32 := match q.1 with
  | none => -4
  | some _ => nI q.2
theorem tbF_none {q : Option Nat × Nat} (h : q.1 = none) : tbF q = -4 := by unfold tbF; rw [h]
theorem tbF_some {q : Option Nat × Nat} {k : Nat} (h : q.1 = some k) : tbF q = nI q.2 := by unfold tbF; rw [h]
set_option maxHeartbeats 4000000 in
set_option maxRecDepth 100000 in
theorem l_X6_hides {E : xE} {h : xHp} {w : Nat} {O : xO} (a u : Nat) (ha : a < (O.1.1 0).2 0) (hu : u ≤ 1) (hs : ((O.1.1 0).2 3).testBit a = false) : ∀ (n i : Nat) (D : xMd), i ≤ 21 → 22 ≤ i + n → Rel O D → PW E mX6_hides (fun v h1 => v = some (.int (tbh (O.1.1 0) a (decide (u = 0)))) ∧ ∃ D', Rel O D' ∧ h1 = MH E h w D') 0 0 45 [some (.ref w), some (.int (nI a)), some (.int (nI u)), some (.int (oI (tbst (O.1.1 0) a i).1)), some (.int (tbF (tbst (O.1.1 0) a i))), some (.int (nI i)), none] [] (MH E h w D) := by
  intro n
  induction n with
  | zero =>
    intro i D h2 h3 hR
    omega
  | succ n ih =>
    intro i D h2 h3 hR
    have R := hR.1.1
    have hOK := hR.1.2.1.1
    have hm6 := hOK.1.1
    have hm4 := hOK.1.2.1
    have hN9 := hR.1.2.1.2
    rcases hv : (tbst (O.1.1 0) a i).1 with _ | bb
    · refine px_eq (lo2 := [some (.ref w), some (.int (nI a)), some (.int (nI u)), some (.int (-4)), some (.int (-4)), some (.int (nI i)), none]) (by rw [tbF_none hv]; rfl) rfl rfl ?_
      refine px_iload dX6_hides_45 rfl ?_
      refine px_bipush (v := nI 20) dX6_hides_47 (by decide) ?_
      refine px_icmp_gtN 124 dX6_hides_49 (by decide) (by omega) (by omega) (fun c49 => ?_) (fun c49 => ?_)
      · refine px_iload_n dX6_hides_124 rfl ?_
        refine px_if_neN 132 dX6_hides_125 (by decide) (by omega) (fun c125 => ?_) (fun c125 => ?_)
        · refine px_iload dX6_hides_132 rfl ?_
          have hi : i = 21 := by omega
          subst hi
          exact px_iret dX6_hides_134 rfl rfl rfl ⟨(by rw [tbh_none hv]), D, hR, rfl⟩
        · refine px_iload_n dX6_hides_128 rfl ?_
          refine px_goto 134 dX6_hides_129 (by decide) ?_
          have hi : i = 21 := by omega
          subst hi
          exact px_iret dX6_hides_134 rfl rfl rfl ⟨(by rw [tbh_none hv]), D, hR, rfl⟩
      · refine px_aload_n dX6_hides_52 rfl ?_
        refine px_callV (M2 := mX6_begin) (c_X6_begin hR) mw_X6_begin wm_X6_begin we_X6_begin (Or.inl ml_X6_141) dX6_hides_53 MH_obj rfl (by decide) rfl rfl (Nat.le_of_ble_eq_true rfl) ⟨Nat.zero_le _, Nat.zero_le _⟩ (fun v h2 hq => ?_)
        obtain ⟨rfl, D1, hI1, rfl⟩ := hq
        refine px_aload_n dX6_hides_56 rfl ?_
        refine px_get xk_X6 8 dX6_hides_57 (Or.inl fl_X6_26) MH_obj (by decide) rfl ?_
        refine px_iload_n dX6_hides_60 rfl ?_
        refine px_iconst (v := nI 0) dX6_hides_61 (by decide) ?_
        refine px_sv (c_showT hI1 a false (by omega)) mw_X6_setShows wt_X6_setShows (Or.inl ml_X6_130) dX6_hides_62 (by decide) rfl rfl (Nat.le_of_ble_eq_true rfl) ⟨rfl, rfl⟩ ?_
        have hI2 : Tri O _ (tshow (O.1.1 0) a false) := hI1.set (hI1.2.1.ups2 hm6 hm4) (tshow_ok hOK (by omega))
        refine px_aload_n dX6_hides_65 rfl ?_
        refine px_iload dX6_hides_66 rfl ?_
        refine px_iconst (v := nI 0) dX6_hides_68 (by decide) ?_
        refine px_callV (M2 := mX6_goOn) (c_X6_goOn hI2 i (by omega) (by show (O.1.1 0).2 4 + i < 2 ^ 30; omega) (nI 0) hm0 hb0) mw_X6_goOn wm_X6_goOn we_X6_goOn (Or.inl ml_X6_144) dX6_hides_69 MH_obj rfl (by decide) rfl rfl (Nat.le_of_ble_eq_true rfl) ⟨Nat.zero_le _, Nat.zero_le _⟩ (fun v h2 hq => ?_)
        obtain ⟨rfl, D3, hI3, rfl⟩ := hq
        refine px_aload_n dX6_hides_72 rfl ?_
        refine px_get xk_X6 8 dX6_hides_73 (Or.inl fl_X6_26) MH_obj (by decide) rfl ?_
        refine px_iload_n dX6_hides_76 rfl ?_
        refine px_iconst (v := nI 1) dX6_hides_77 (by decide) ?_
        refine px_sv (c_showT hI3 a true (by omega)) mw_X6_setShows wt_X6_setShows (Or.inl ml_X6_130) dX6_hides_78 (by decide) rfl rfl (Nat.le_of_ble_eq_true rfl) ⟨rfl, rfl⟩ ?_
        have hI4 : Tri O _ (tHU (O.1.1 0) a i) := hI3.set (hI3.2.1.ups2 hI3.2.2.1.1 hI3.2.2.1.2.1) (tshow_ok hI3.2.2 (by omega))
        refine px_aload_n dX6_hides_81 rfl ?_
        refine px_iload_n dX6_hides_82 rfl ?_
        refine px_iload dX6_hides_83 rfl ?_
        refine px_callV (M2 := mX6_swornFrom) (c_X6_swornFrom hI4 a i (by omega) (by omega) (by show (tnights (tshow (O.1.1 0) a false) hm0 i).2 4 + 100 < 2 ^ 30; rw [(tnights_s i).2.2]; show (O.1.1 0).2 4 + i + 100 < 2 ^ 30; omega)) mw_X6_swornFrom wm_X6_swornFrom we_X6_swornFrom (Or.inl ml_X6_148) dX6_hides_85 MH_obj rfl (by decide) rfl rfl (Nat.le_of_ble_eq_true rfl) ⟨Nat.zero_le _, Nat.zero_le _⟩ (fun v h2 hq => ?_)
        obtain ⟨rfl, D5, hR5, rfl⟩ := hq
        refine px_topi (congrArg oI (hid_eq hs (by omega))) ?_
        rcases hn : ffrom (pHd (O.1.1 0) a i) 99 1 with _ | q
        · refine px_topi (show oI none = -4 from rfl) ?_
          refine px_ist_6 dX6_hides_88 (by decide) rfl ?_
          refine px_iload dX6_hides_90 rfl ?_
          refine px_bipush (v := -4) dX6_hides_92 (by decide) ?_
          refine px_icmp_eq 118 dX6_hides_94 (by decide) (fun _ => ?_) (fun z => absurd z (by decide))
          refine px_inc_5 dX6_hides_118 rfl (nI_1 _) (by decide) rfl ?_
          refine px_goto 45 dX6_hides_121 (by decide) ?_
          refine px_fg_6 ?_
          refine px_eq (lo2 := [some (.ref w), some (.int (nI a)), some (.int (nI u)), some (.int (oI (tbst (O.1.1 0) a (i + 1)).1)), some (.int (tbF (tbst (O.1.1 0) a (i + 1)))), some (.int (nI (i + 1))), none]) ?_ rfl rfl (ih (i + 1) D5 (by omega) (by omega) hR5)
          rw [tbst_n0 hn, tbF_none hv, hv]
          rfl
        · have hq := ffrom_lt hn
          refine px_topi (show oI (some q) = nI q from rfl) ?_
          refine px_ist_6 dX6_hides_88 (by decide) rfl ?_
          refine px_iload dX6_hides_90 rfl ?_
          refine px_bipush (v := -4) dX6_hides_92 (by decide) ?_
          refine px_icmp_eq 118 dX6_hides_94 (by decide) (fun c94 => ?_) (fun c94 => ?_)
          · exact absurd c94 (nI_m4 (by omega))
          · refine px_iload dX6_hides_97 rfl ?_
            refine px_bipush (v := -4) dX6_hides_99 (by decide) ?_
            refine px_icmp_eq 111 dX6_hides_101 (by decide) (fun _ => ?_) (fun z => absurd z (by decide))
            refine px_iload dX6_hides_111 rfl ?_
            refine px_istn_3 dX6_hides_113 (by decide) rfl ?_
            refine px_iload dX6_hides_114 rfl ?_
            refine px_ist_4 dX6_hides_116 (by decide) rfl ?_
            refine px_inc_5 dX6_hides_118 rfl (nI_1 _) (by decide) rfl ?_
            refine px_goto 45 dX6_hides_121 (by decide) ?_
            refine px_fg_6 ?_
            refine px_eq (lo2 := [some (.ref w), some (.int (nI a)), some (.int (nI u)), some (.int (oI (tbst (O.1.1 0) a (i + 1)).1)), some (.int (tbF (tbst (O.1.1 0) a (i + 1)))), some (.int (nI (i + 1))), none]) ?_ rfl rfl (ih (i + 1) D5 (by omega) (by omega) hR5)
            rw [tbst_y hn (by rw [tbst_none i hv]; omega)]
            rfl
    · have hbb := tbst_b (T := (O.1.1 0)) (a := a) i
      have hb3 := hbb.2.2 bb hv
      refine px_eq (lo2 := [some (.ref w), some (.int (nI a)), some (.int (nI u)), some (.int (nI bb)), some (.int (nI (tbst (O.1.1 0) a i).2)), some (.int (nI i)), none]) (by rw [tbF_some hv]; rfl) rfl rfl ?_
      refine px_iload dX6_hides_45 rfl ?_
      refine px_bipush (v := nI 20) dX6_hides_47 (by decide) ?_
      refine px_icmp_gtN 124 dX6_hides_49 (by decide) (by omega) (by omega) (fun c49 => ?_) (fun c49 => ?_)
      · refine px_iload_n dX6_hides_124 rfl ?_
        refine px_if_neN 132 dX6_hides_125 (by decide) (by omega) (fun c125 => ?_) (fun c125 => ?_)
        · refine px_iload dX6_hides_132 rfl ?_
          have hi : i = 21 := by omega
          subst hi
          exact px_iret dX6_hides_134 rfl rfl rfl ⟨(by rw [tbh_some hv, decide_eq_false c125]; rfl), D, hR, rfl⟩
        · refine px_iload_n dX6_hides_128 rfl ?_
          refine px_goto 134 dX6_hides_129 (by decide) ?_
          have hi : i = 21 := by omega
          subst hi
          exact px_iret dX6_hides_134 rfl rfl rfl ⟨(by rw [tbh_some hv, decide_eq_true c125]; rfl), D, hR, rfl⟩
      · refine px_aload_n dX6_hides_52 rfl ?_
        refine px_callV (M2 := mX6_begin) (c_X6_begin hR) mw_X6_begin wm_X6_begin we_X6_begin (Or.inl ml_X6_141) dX6_hides_53 MH_obj rfl (by decide) rfl rfl (Nat.le_of_ble_eq_true rfl) ⟨Nat.zero_le _, Nat.zero_le _⟩ (fun v h2 hq => ?_)
        obtain ⟨rfl, D1, hI1, rfl⟩ := hq
        refine px_aload_n dX6_hides_56 rfl ?_
        refine px_get xk_X6 8 dX6_hides_57 (Or.inl fl_X6_26) MH_obj (by decide) rfl ?_
        refine px_iload_n dX6_hides_60 rfl ?_
        refine px_iconst (v := nI 0) dX6_hides_61 (by decide) ?_
        refine px_sv (c_showT hI1 a false (by omega)) mw_X6_setShows wt_X6_setShows (Or.inl ml_X6_130) dX6_hides_62 (by decide) rfl rfl (Nat.le_of_ble_eq_true rfl) ⟨rfl, rfl⟩ ?_
        have hI2 : Tri O _ (tshow (O.1.1 0) a false) := hI1.set (hI1.2.1.ups2 hm6 hm4) (tshow_ok hOK (by omega))
        refine px_aload_n dX6_hides_65 rfl ?_
        refine px_iload dX6_hides_66 rfl ?_
        refine px_iconst (v := nI 0) dX6_hides_68 (by decide) ?_
        refine px_callV (M2 := mX6_goOn) (c_X6_goOn hI2 i (by omega) (by show (O.1.1 0).2 4 + i < 2 ^ 30; omega) (nI 0) hm0 hb0) mw_X6_goOn wm_X6_goOn we_X6_goOn (Or.inl ml_X6_144) dX6_hides_69 MH_obj rfl (by decide) rfl rfl (Nat.le_of_ble_eq_true rfl) ⟨Nat.zero_le _, Nat.zero_le _⟩ (fun v h2 hq => ?_)
        obtain ⟨rfl, D3, hI3, rfl⟩ := hq
        refine px_aload_n dX6_hides_72 rfl ?_
        refine px_get xk_X6 8 dX6_hides_73 (Or.inl fl_X6_26) MH_obj (by decide) rfl ?_
        refine px_iload_n dX6_hides_76 rfl ?_
        refine px_iconst (v := nI 1) dX6_hides_77 (by decide) ?_
        refine px_sv (c_showT hI3 a true (by omega)) mw_X6_setShows wt_X6_setShows (Or.inl ml_X6_130) dX6_hides_78 (by decide) rfl rfl (Nat.le_of_ble_eq_true rfl) ⟨rfl, rfl⟩ ?_
        have hI4 : Tri O _ (tHU (O.1.1 0) a i) := hI3.set (hI3.2.1.ups2 hI3.2.2.1.1 hI3.2.2.1.2.1) (tshow_ok hI3.2.2 (by omega))
        refine px_aload_n dX6_hides_81 rfl ?_
        refine px_iload_n dX6_hides_82 rfl ?_
        refine px_iload dX6_hides_83 rfl ?_
        refine px_callV (M2 := mX6_swornFrom) (c_X6_swornFrom hI4 a i (by omega) (by omega) (by show (tnights (tshow (O.1.1 0) a false) hm0 i).2 4 + 100 < 2 ^ 30; rw [(tnights_s i).2.2]; show (O.1.1 0).2 4 + i + 100 < 2 ^ 30; omega)) mw_X6_swornFrom wm_X6_swornFrom we_X6_swornFrom (Or.inl ml_X6_148) dX6_hides_85 MH_obj rfl (by decide) rfl rfl (Nat.le_of_ble_eq_true rfl) ⟨Nat.zero_le _, Nat.zero_le _⟩ (fun v h2 hq => ?_)
        obtain ⟨rfl, D5, hR5, rfl⟩ := hq
        refine px_topi (congrArg oI (hid_eq hs (by omega))) ?_
        rcases hn : ffrom (pHd (O.1.1 0) a i) 99 1 with _ | q
        · refine px_topi (show oI none = -4 from rfl) ?_
          refine px_ist_6 dX6_hides_88 (by decide) rfl ?_
          refine px_iload dX6_hides_90 rfl ?_
          refine px_bipush (v := -4) dX6_hides_92 (by decide) ?_
          refine px_icmp_eq 118 dX6_hides_94 (by decide) (fun _ => ?_) (fun z => absurd z (by decide))
          refine px_inc_5 dX6_hides_118 rfl (nI_1 _) (by decide) rfl ?_
          refine px_goto 45 dX6_hides_121 (by decide) ?_
          refine px_fg_6 ?_
          refine px_eq (lo2 := [some (.ref w), some (.int (nI a)), some (.int (nI u)), some (.int (oI (tbst (O.1.1 0) a (i + 1)).1)), some (.int (tbF (tbst (O.1.1 0) a (i + 1)))), some (.int (nI (i + 1))), none]) ?_ rfl rfl (ih (i + 1) D5 (by omega) (by omega) hR5)
          rw [tbst_n0 hn, tbF_some hv, hv]
          rfl
        · have hq := ffrom_lt hn
          refine px_topi (show oI (some q) = nI q from rfl) ?_
          refine px_ist_6 dX6_hides_88 (by decide) rfl ?_
          refine px_iload dX6_hides_90 rfl ?_
          refine px_bipush (v := -4) dX6_hides_92 (by decide) ?_
          refine px_icmp_eq 118 dX6_hides_94 (by decide) (fun c94 => ?_) (fun c94 => ?_)
          · exact absurd c94 (nI_m4 (by omega))
          · refine px_iload dX6_hides_97 rfl ?_
            refine px_bipush (v := -4) dX6_hides_99 (by decide) ?_
            refine px_icmp_eq 111 dX6_hides_101 (by decide) (fun c101 => ?_) (fun c101 => ?_)
            · exact absurd c101 (nI_m4 (by omega))
            · refine px_iload dX6_hides_104 rfl ?_
              refine px_iload dX6_hides_106 rfl ?_
              refine px_icmp_geN 118 dX6_hides_108 (by decide) (by omega) (by omega) (fun c108 => ?_) (fun c108 => ?_)
              · refine px_inc_5 dX6_hides_118 rfl (nI_1 _) (by decide) rfl ?_
                refine px_goto 45 dX6_hides_121 (by decide) ?_
                refine px_fg_6 ?_
                refine px_eq (lo2 := [some (.ref w), some (.int (nI a)), some (.int (nI u)), some (.int (oI (tbst (O.1.1 0) a (i + 1)).1)), some (.int (tbF (tbst (O.1.1 0) a (i + 1)))), some (.int (nI (i + 1))), none]) ?_ rfl rfl (ih (i + 1) D5 (by omega) (by omega) hR5)
                rw [tbst_n1 hn c108, tbF_some hv, hv]
                rfl
              · refine px_iload dX6_hides_111 rfl ?_
                refine px_istn_3 dX6_hides_113 (by decide) rfl ?_
                refine px_iload dX6_hides_114 rfl ?_
                refine px_ist_4 dX6_hides_116 (by decide) rfl ?_
                refine px_inc_5 dX6_hides_118 rfl (nI_1 _) (by decide) rfl ?_
                refine px_goto 45 dX6_hides_121 (by decide) ?_
                refine px_fg_6 ?_
                refine px_eq (lo2 := [some (.ref w), some (.int (nI a)), some (.int (nI u)), some (.int (oI (tbst (O.1.1 0) a (i + 1)).1)), some (.int (tbF (tbst (O.1.1 0) a (i + 1)))), some (.int (nI (i + 1))), none]) ?_ rfl rfl (ih (i + 1) D5 (by omega) (by omega) hR5)
                rw [tbst_y hn c108]
                rfl
set_option maxHeartbeats 4000000 in
set_option maxRecDepth 100000 in
theorem c_X6_hides_n {E : xE} {h : xHp} {w : Nat} {D : xMd} {O : xO} (hR : Rel O D) (x y : Int32) (hx : ¬ ((0 ≤ x ∧ x < nI ((O.1.1 0).2 0)) ∧ (nI 0 ≤ y ∧ y ≤ nI 1))) : PMX E mX6_hides [.ref w, .int x, .int y] h w D (-1) O := by
  have R := hR.1.1
  have hOK := hR.1.2.1.1
  have hm6 := hOK.1.1
  have hm4 := hOK.1.2.1
  have hN9 := hR.1.2.1.2
  refine pm_of [some (.ref w), some (.int x), some (.int y), none, none, none, none] (by decide +kernel) (Nat.le_of_ble_eq_true rfl) rfl ?_
  refine px_aload_n dX6_hides_0 rfl ?_
  refine px_iload_n dX6_hides_1 rfl ?_
  refine px_vi (M2 := mX6_isOne) (c_X6_isOne R hOK x) mw_X6_isOne wm_X6_isOne we_X6_isOne (Or.inl ml_X6_58) dX6_hides_2 (MH_obj) rfl (by decide) rfl rfl (Nat.le_of_ble_eq_true rfl) ⟨rfl, rfl⟩ ?_
  refine px_if_eqB 17 dX6_hides_5 (by decide) (fun c5 => ?_) (fun c5 => ?_)
  · refine px_iconst (v := -1) dX6_hides_17 (by decide) ?_
    exact px_iret dX6_hides_18 rfl rfl rfl ⟨rfl, D, hR, rfl⟩
  · refine px_iload_n dX6_hides_8 rfl ?_
    refine px_iconst (v := nI 0) dX6_hides_9 (by decide) ?_
    refine px_iconst (v := nI 1) dX6_hides_10 (by decide) ?_
    refine px_si (c_X6_in (y) (nI 0) (nI 1)) mw_X6_in wt_X6_in (Or.inl ml_X6_38) dX6_hides_11 (by decide) rfl rfl (Nat.le_of_ble_eq_true rfl) ⟨rfl, rfl⟩ ?_
    refine px_if_neB 19 dX6_hides_14 (by decide) (fun c14 => ?_) (fun c14 => ?_)
    · exact absurd ⟨of_decide_eq_true c5, of_decide_eq_true c14⟩ hx
    · refine px_iconst (v := -1) dX6_hides_17 (by decide) ?_
      exact px_iret dX6_hides_18 rfl rfl rfl ⟨rfl, D, hR, rfl⟩
set_option maxHeartbeats 4000000 in
set_option maxRecDepth 100000 in
theorem c_X6_hides {E : xE} {h : xHp} {w : Nat} {D : xMd} {O : xO} (hR : Rel O D) (a u : Nat) (ha : a < (O.1.1 0).2 0) (hu : u ≤ 1) : PMX E mX6_hides [.ref w, .int (nI a), .int (nI u)] h w D (if ((O.1.1 0).2 3).testBit a then nI 0 else tbh (O.1.1 0) a (decide (u = 0))) O := by
  have R := hR.1.1
  have hOK := hR.1.2.1.1
  have hm6 := hOK.1.1
  have hm4 := hOK.1.2.1
  have hN9 := hR.1.2.1.2
  refine pm_of [some (.ref w), some (.int (nI a)), some (.int (nI u)), none, none, none, none] (by decide +kernel) (Nat.le_of_ble_eq_true rfl) rfl ?_
  refine px_aload_n dX6_hides_0 rfl ?_
  refine px_iload_n dX6_hides_1 rfl ?_
  refine px_vi (M2 := mX6_isOne) (c_m1_y R hOK ha) mw_X6_isOne wm_X6_isOne we_X6_isOne (Or.inl ml_X6_58) dX6_hides_2 (MH_obj) rfl (by decide) rfl rfl (Nat.le_of_ble_eq_true rfl) ⟨rfl, rfl⟩ ?_
  refine px_if_eqB 17 dX6_hides_5 (by decide) (fun c5 => ?_) (fun c5 => ?_)
  · cases c5
  · refine px_iload_n dX6_hides_8 rfl ?_
    refine px_iconst (v := nI 0) dX6_hides_9 (by decide) ?_
    refine px_iconst (v := nI 1) dX6_hides_10 (by decide) ?_
    refine px_si (c_X6_in (nI u) (nI 0) (nI 1)) mw_X6_in wt_X6_in (Or.inl ml_X6_38) dX6_hides_11 (by decide) rfl rfl (Nat.le_of_ble_eq_true rfl) ⟨rfl, rfl⟩ ?_
    refine px_if_neB 19 dX6_hides_14 (by decide) (fun c14 => ?_) (fun c14 => ?_)
    · refine px_aload_n dX6_hides_19 rfl ?_
      refine px_get xk_X6 7 dX6_hides_20 (Or.inl fl_X6_23) MH_obj (by decide) rfl ?_
      refine px_bipush (v := nI 21) dX6_hides_23 (by decide) ?_
      refine px_bL (b := 0) rfl dX6_hides_25 (by decide) (by omega) (R.sw) ?_
      refine px_iload_n dX6_hides_26 rfl ?_
      refine px_si (c_X6_has_n ((O.1.1 0).2 3) a (by have := hOK.1.2.2.2.1; omega) (by omega)) mw_X6_has wt_X6_has (Or.inl ml_X6_50) dX6_hides_27 (by decide) rfl rfl (Nat.le_of_ble_eq_true rfl) ⟨rfl, rfl⟩ ?_
      refine px_if_eqB 35 dX6_hides_30 (by decide) (fun c30 => ?_) (fun c30 => ?_)
      · refine px_bipush (v := -4) dX6_hides_35 (by decide) ?_
        refine px_istn_3 dX6_hides_37 (by decide) rfl ?_
        refine px_bipush (v := -4) dX6_hides_38 (by decide) ?_
        refine px_ist_4 dX6_hides_40 (by decide) rfl ?_
        refine px_iconst (v := nI 0) dX6_hides_42 (by decide) ?_
        refine px_ist_5 dX6_hides_43 (by decide) rfl ?_
        rw [if_neg (by rw [c30]; decide)]
        exact l_X6_hides a u ha hu c30 22 0 D (Nat.zero_le _) (by omega) hR
      · refine px_iconst (v := nI 0) dX6_hides_33 (by decide) ?_
        exact px_iret dX6_hides_34 rfl rfl rfl ⟨(by rw [if_pos c30]), D, hR, rfl⟩
    · rw [in_t (by omega) (by omega) (by decide)] at c14
      cases c14
/-! ===== covering ===== -/
def SimS (X Y : xT) : Prop := (∀ j, j ≠ 2 → Y.2 j = X.2 j) ∧ (∀ j b, Y.1 j b = X.1 j b) ∧ ∀ b, (X.2 3).testBit b = false → (Y.2 2).testBit b = (X.2 2).testBit b
theorem SimS.may {X Y : xT} (h : SimS X Y) (t b : Nat) : tmay Y t b = tmay X t b := by
  unfold tmay
  rw [h.1 3 (by decide), h.2.1 3, h.2.1 4, h.2.1 5, h.2.1 1]
  cases hs : (X.2 3).testBit b
  · rw [h.2.2 b hs]
  · simp
theorem SimS.vic {X Y : xT} (h : SimS X Y) (t r : Nat) : ∀ n, tvic Y t r n = tvic X t r n
  | 0 => rfl
  | n + 1 => by
    rw [tvic, tvic, h.vic t r n, h.may, h.2.1]
    cases tvic X t r n with
    | none => rfl
    | some b => simp only [h.2.1]
theorem SimS.prey {X Y : xT} (h : SimS X Y) (hm : Nat → Bool) (t : Nat) (e : trob Y hm t = trob X hm t) : tprey Y hm t = tprey X hm t := by
  unfold tprey
  rw [e, h.vic, h.1 0 (by decide)]
theorem SimS.rob {X Y : xT} (h : SimS X Y) (hm : Nat → Bool) : ∀ n, trob Y hm n = trob X hm n
  | 0 => rfl
  | n + 1 => by rw [trob_s, trob_s, h.prey hm n (h.rob hm n), h.rob hm n]
theorem tst1_sim {X Y : xT} (h : SimS X Y) (R j b : Nat) : tst1 Y R j b = tst1 X R j b := by
  unfold tst1
  rw [h.1 5 (by decide), h.1 3 (by decide), h.2.1 2, h.2.1 1, h.2.1 j]
  cases hs : (X.2 3).testBit b
  · have : tgrow Y b = tgrow X b := by
      unfold tgrow tcl
      rw [h.2.1 0, h.1 4 (by decide), h.2.2 b hs, h.2.1 2]
    rw [this]
  · simp only [if_true]
theorem SimS.pass {X Y : xT} (h : SimS X Y) (hm : Nat → Bool) : SimS (tpass X hm) (tpass Y hm) := by
  have eR : trob Y hm (Y.2 1) = trob X hm (X.2 1) := by rw [h.1 1 (by decide), h.rob]
  have p := tsteps_p (T := X) (R := trob X hm (X.2 1)) (X.2 0)
  have q := tsteps_p (T := Y) (R := trob X hm (X.2 1)) (X.2 0)
  have eP : ∀ j b, (tpass X hm).1 j b = if b < X.2 0 then tst1 X (trob X hm (X.2 1)) j b else X.1 j b := fun j b => p.2 j b
  have eQ : ∀ j b, (tpass Y hm).1 j b = if b < X.2 0 then tst1 Y (trob X hm (X.2 1)) j b else Y.1 j b := fun j b => by
    show (tsteps Y (trob Y hm (Y.2 1)) (Y.2 0)).1 j b = _
    rw [eR, h.1 0 (by decide)]
    exact q.2 j b
  have e3 : (tpass Y hm).2 3 = (tpass X hm).2 3 := by
    show (tsteps Y (trob Y hm (Y.2 1)) (Y.2 0)).2 3 = (tsteps X (trob X hm (X.2 1)) (X.2 0)).2 3
    rw [eR, h.1 0 (by decide)]
    apply Nat.eq_of_testBit_eq
    intro b
    rw [p.1 b, q.1 b, h.1 3 (by decide), h.1 5 (by decide), h.2.1 2]
  refine ⟨fun j hj => ?_, fun j b => ?_, fun b hb => ?_⟩
  · by_cases h3 : j = 3
    · subst h3; exact e3
    · by_cases h4 : j = 4
      · subst h4; rw [tpass_s.2.2.2.1, tpass_s.2.2.2.1, h.1 4 (by decide)]
      · have k : ∀ T : xT, (tpass T hm).2 j = T.2 j := fun T => by
          unfold tpass
          rw [tSS_ne _ h4, tsteps_2 h3]
        rw [k, k, h.1 j hj]
  · rw [eP, eQ, tst1_sim h, h.2.1]
  · rw [tpass_s.2.2.1, tpass_s.2.2.1]
    refine h.2.2 b ?_
    have : ((tpass X hm).2 3).testBit b = _ := p.1 b
    rw [this] at hb
    cases hx : (X.2 3).testBit b
    · rfl
    · rw [hx] at hb; simp at hb
theorem SimS.nights {X Y : xT} (h : SimS X Y) (hm : Nat → Bool) : ∀ n, SimS (tnights X hm n) (tnights Y hm n)
  | 0 => h
  | n + 1 => (h.nights hm n).pass hm
theorem pCv_sw (T : xT) (a k s : Nat) : pCv T a k (ndif s (T.2 3)) = pCv T a k s := by
  have h : SimS (tSS T 2 (ndif (T.2 2) s)) (tSS T 2 (ndif (T.2 2) (ndif s (T.2 3)))) := by
    refine ⟨fun j hj => ?_, fun j b => rfl, fun b hb => ?_⟩
    · rw [tSS_ne _ hj, tSS_ne _ hj]
    · have hb : (T.2 3).testBit b = false := hb
      rw [tSS_at, tSS_at, ndif_tb, ndif_tb, ndif_tb, hb]
      simp
  unfold pCv
  rw [(h.nights hm0 k).1 3 (by decide)]
theorem ndif_0 {s c : Nat} : ndif s c = 0 ↔ ∀ i, s.testBit i = true → c.testBit i = true := by
  constructor
  · intro h i hi
    have := ndif_tb s c i
    rw [h, Nat.zero_testBit, hi] at this
    cases hc : c.testBit i
    · rw [hc] at this; cases this
    · rfl
  · intro h
    apply Nat.eq_of_testBit_eq
    intro i
    rw [ndif_tb, Nat.zero_testBit]
    cases hs : s.testBit i
    · rfl
    · rw [h i hs]; rfl
theorem ndif_le {s c : Nat} (h : ndif s c = 0) : s ≤ c := by
  have : s ||| c = c := by
    apply Nat.eq_of_testBit_eq
    intro i
    rw [Nat.testBit_or]
    cases hs : s.testBit i
    · simp
    · rw [ndif_0.mp h i hs]; rfl
  rw [← this]
  exact Nat.left_le_or
theorem ndif_self_le (s q : Nat) : ndif s q ≤ s := ndif_le (ndif_0.mpr (fun i hi => by
  rw [ndif_tb] at hi
  cases hs : s.testBit i
  · rw [hs] at hi; simp at hi
  · rfl))
theorem bc_ndif : ∀ s : Fin 64, ∀ q : Fin 64, bc (ndif s.1 q.1) ≤ bc s.1 := by decide +kernel
theorem tcov_mono {T : xT} {a k o s b : Nat} (h : tcov T a k o s = some b) : ∀ d, ∃ b2, tcov T a k o (s + d) = some b2 ∧ bc b2 ≤ bc b
  | 0 => ⟨b, h, Nat.le_refl _⟩
  | d + 1 => by
    obtain ⟨b2, h2, h3⟩ := tcov_mono h d
    by_cases hc : bc b2 ≤ bc (s + d)
    · exact ⟨b2, by rw [← Nat.add_assoc, tcov_n (Or.inl ⟨b2, h2, hc⟩), h2], h3⟩
    · by_cases hd : ndif (s + d) o = 0
      · cases hp : pCv T a k (s + d)
        · exact ⟨b2, by rw [← Nat.add_assoc, tcov_n (Or.inr (Or.inr hp)), h2], h3⟩
        · exact ⟨s + d, by rw [← Nat.add_assoc, tcov_y (Or.inr ⟨b2, h2, by omega⟩) hd hp], by omega⟩
      · exact ⟨b2, by rw [← Nat.add_assoc, tcov_n (Or.inr (Or.inl hd)), h2], h3⟩
theorem tcov_take {T : xT} {a k o s : Nat} (hd : ndif s o = 0) (hp : pCv T a k s = true) : ∃ b, tcov T a k o (s + 1) = some b ∧ bc b ≤ bc s := by
  cases hv : tcov T a k o s with
  | none => exact ⟨s, tcov_y (Or.inl hv) hd hp, Nat.le_refl _⟩
  | some b =>
    by_cases hc : bc b ≤ bc s
    · exact ⟨b, by rw [tcov_n (Or.inl ⟨b, hv, hc⟩), hv], hc⟩
    · exact ⟨s, tcov_y (Or.inr ⟨b, hv, by omega⟩) hd hp, Nat.le_refl _⟩
def canS (T : xT) (a : Nat) : Nat := ndif (ndif (T.2 2) (T.2 3)) (2 ^ a)
theorem canS_tb (T : xT) (a i : Nat) : (canS T a).testBit i = (((T.2 2).testBit i && !(T.2 3).testBit i) && !(2 ^ a).testBit i) := by
  unfold canS
  rw [ndif_tb, ndif_tb]
theorem cov_1 {T : xT} (hOK : tOK T) (a k : Nat) : ∀ s, s ≤ 64 → tcov T a k (ndif (T.2 2) (2 ^ a)) s = tcov T a k (canS T a) s
  | 0, _ => rfl
  | s + 1, hs => by
    have ih := cov_1 hOK a k s (by omega)
    by_cases hc : ndif s (canS T a) = 0
    · have ho : ndif s (ndif (T.2 2) (2 ^ a)) = 0 := ndif_0.mpr (fun i hi => by
        have := ndif_0.mp hc i hi
        rw [canS_tb] at this
        rw [ndif_tb]
        cases h1 : (T.2 2).testBit i
        · rw [h1] at this; simp at this
        · cases h2 : (2 ^ a).testBit i
          · rfl
          · rw [h2] at this; simp at this)
      rw [tcov, tcov, ih, hc, ho]
    · rw [tcov_n (oth := canS T a) (Or.inr (Or.inl hc)), ← ih]
      by_cases ho : ndif s (ndif (T.2 2) (2 ^ a)) = 0
      · cases hp : pCv T a k s
        · exact tcov_n (Or.inr (Or.inr hp))
        · have hq := pCv_sw T a k s
          rw [hp] at hq
          have hsub : ndif (ndif s (T.2 3)) (canS T a) = 0 := ndif_0.mpr (fun i hi => by
            rw [ndif_tb] at hi
            cases h1 : s.testBit i
            · rw [h1] at hi; simp at hi
            · have h2 := ndif_0.mp ho i h1
              rw [ndif_tb] at h2
              rw [h1] at hi
              rw [canS_tb]
              cases h3 : (T.2 2).testBit i
              · rw [h3] at h2; simp at h2
              · cases h4 : (2 ^ a).testBit i
                · simp at hi
                  rw [hi]; rfl
                · rw [h4] at h2; simp at h2)
          have hle := ndif_self_le s (T.2 3)
          have hlt : ndif s (T.2 3) < s := by
            rcases Nat.lt_or_eq_of_le hle with h | h
            · exact h
            · rw [h] at hsub; exact absurd hsub hc
          obtain ⟨b, hb1, hb2⟩ := tcov_take hsub hq
          obtain ⟨b2, hb3, hb4⟩ := tcov_mono hb1 (s - (ndif s (T.2 3) + 1))
          rw [show ndif s (T.2 3) + 1 + (s - (ndif s (T.2 3) + 1)) = s by omega, ← ih] at hb3
          have hbc := bc_ndif ⟨s, by omega⟩ ⟨T.2 3, hOK.1.2.2.2.1⟩
          exact tcov_n (Or.inl ⟨b2, hb3, Nat.le_trans hb4 (Nat.le_trans hb2 hbc)⟩)
      · exact tcov_n (Or.inr (Or.inl ho))
theorem cov_2 {T : xT} {a k c : Nat} : ∀ d, tcov T a k c (c + 1 + d) = tcov T a k c (c + 1)
  | 0 => rfl
  | d + 1 => by
    rw [← Nat.add_assoc, tcov_n (Or.inr (Or.inl (fun q => by have := ndif_le q; omega))), cov_2 d]
theorem canS_lt {T : xT} (hOK : tOK T) (a : Nat) : canS T a < 64 := ndif_lt (n := 6) (ndif_lt (n := 6) hOK.1.2.2.1)
theorem cov_eq {T : xT} (hOK : tOK T) (a k : Nat) : tcov T a k (ndif (T.2 2) (2 ^ a)) 64 = tcov T a k (canS T a) (canS T a + 1) := by
  have := canS_lt hOK a
  rw [cov_1 hOK a k 64 (Nat.le_refl _), show 64 = canS T a + 1 + (63 - canS T a) by omega, cov_2]
set_option maxHeartbeats 4000000 in
set_option maxRecDepth 100000 in
theorem l_X6_cover {E : xE} {h : xHp} {w : Nat} {O : xO} (a k u : Nat) (ha : a < (O.1.1 0).2 0) (h1 : 1 ≤ k) (hk : k ≤ 40) (hu : u ≤ 1) : ∀ (n i : Nat) (D : xMd), i ≤ canS (O.1.1 0) a + 1 → canS (O.1.1 0) a + 2 ≤ i + n → Rel O D → PW E mX6_cover (fun v h1 => v = some (.int (tcvr (O.1.1 0) a k u)) ∧ ∃ D', Rel O D' ∧ h1 = MH E h w D') 0 0 61 [some (.ref w), some (.int (nI a)), some (.int (nI k)), some (.int (nI u)), some (.int (nI (canS (O.1.1 0) a))), some (.int (oI (tcov (O.1.1 0) a k (canS (O.1.1 0) a) i))), some (.int (nI i))] [] (MH E h w D) := by
  intro n
  induction n with
  | zero =>
    intro i D h2 h3 hR
    omega
  | succ n ih =>
    intro i D h2 h3 hR
    have R := hR.1.1
    have hOK := hR.1.2.1.1
    have hm6 := hOK.1.1
    have hm4 := hOK.1.2.1
    have hN9 := hR.1.2.1.2
    have hcl := canS_lt hOK a
    rcases hv : tcov (O.1.1 0) a k (canS (O.1.1 0) a) i with _ | bb
    · refine px_eq (lo2 := [some (.ref w), some (.int (nI a)), some (.int (nI k)), some (.int (nI u)), some (.int (nI (canS (O.1.1 0) a))), some (.int (-4)), some (.int (nI i))]) rfl rfl rfl ?_
      refine px_iload dX6_cover_61 rfl ?_
      refine px_iload dX6_cover_63 rfl ?_
      refine px_icmp_gtN 156 dX6_cover_65 (by decide) (by omega) (by omega) (fun c65 => ?_) (fun c65 => ?_)
      · refine px_iload dX6_cover_156 rfl ?_
        refine px_bipush (v := -4) dX6_cover_158 (by decide) ?_
        refine px_icmp_ne 168 dX6_cover_160 (by decide) (fun z => absurd z (by decide)) (fun _ => ?_)
        refine px_bipush (v := -4) dX6_cover_163 (by decide) ?_
        refine px_goto 182 dX6_cover_165 (by decide) ?_
        have hi : i = canS (O.1.1 0) a + 1 := by omega
        subst hi
        exact px_iret dX6_cover_182 rfl rfl rfl ⟨(by show _ = some (Value.int (tcvO (tcov (O.1.1 0) a k (ndif ((O.1.1 0).2 2) (2 ^ a)) 64) u)); rw [cov_eq hOK, hv]; rfl), D, hR, rfl⟩
      · refine px_iload dX6_cover_68 rfl ?_
        refine px_iload dX6_cover_70 rfl ?_
        refine px_iconst (v := -1) dX6_cover_72 (by decide) ?_
        refine px_ixor dX6_cover_73 ?_
        refine px_iand dX6_cover_74 (px_topi (nx_dif _ _) ?_)
        have hnd : ndif i (canS (O.1.1 0) a) < 2 ^ 6 := ndif_lt (by omega)
        refine px_if_neN 150 dX6_cover_75 (by decide) (by omega) (fun c75 => ?_) (fun c75 => ?_)
        · refine px_inc_6 dX6_cover_150 rfl (nI_1 _) (by decide) rfl ?_
          refine px_goto 61 dX6_cover_153 (by decide) ?_
          refine px_eq (lo2 := [some (.ref w), some (.int (nI a)), some (.int (nI k)), some (.int (nI u)), some (.int (nI (canS (O.1.1 0) a))), some (.int (oI (tcov (O.1.1 0) a k (canS (O.1.1 0) a) (i + 1)))), some (.int (nI (i + 1)))]) ?_ rfl rfl (ih (i + 1) D (by omega) (by omega) hR)
          rw [tcov_n (Or.inr (Or.inl c75)), hv]
          try rfl
        · refine px_iload dX6_cover_78 rfl ?_
          refine px_bipush (v := -4) dX6_cover_80 (by decide) ?_
          refine px_icmp_eq 98 dX6_cover_82 (by decide) (fun _ => ?_) (fun z => absurd z (by decide))
          refine px_aload_n dX6_cover_98 rfl ?_
          refine px_callV (M2 := mX6_begin) (c_X6_begin hR) mw_X6_begin wm_X6_begin we_X6_begin (Or.inl ml_X6_141) dX6_cover_99 MH_obj rfl (by decide) rfl rfl (Nat.le_of_ble_eq_true rfl) ⟨Nat.zero_le _, Nat.zero_le _⟩ (fun v h2 hq => ?_)
          obtain ⟨rfl, D1, hI1, rfl⟩ := hq
          refine px_aload_n dX6_cover_102 rfl ?_
          refine px_get xk_X6 8 dX6_cover_103 (Or.inl fl_X6_26) MH_obj (by decide) rfl ?_
          refine px_bipush (v := nI 20) dX6_cover_106 (by decide) ?_
          refine px_aload_n dX6_cover_108 rfl ?_
          refine px_get xk_X6 8 dX6_cover_109 (Or.inl fl_X6_26) MH_obj (by decide) rfl ?_
          refine px_bipush (v := nI 20) dX6_cover_112 (by decide) ?_
          refine px_bL (b := 1) rfl dX6_cover_114 (by decide) (by omega) (hI1.2.1.sh) ?_
          refine px_iload dX6_cover_115 rfl ?_
          refine px_iconst (v := -1) dX6_cover_117 (by decide) ?_
          refine px_ixor dX6_cover_118 ?_
          refine px_iand dX6_cover_119 (px_topi (nx_dif _ _) ?_)
          refine px_bW (b := 1) dX6_cover_120 (by decide) (by decide) ?_
          have hI2 := hI1.set (hI1.2.1.ups2 hm6 hm4 (v := ndif ((O.1.1 0).2 2) i)) (tSS_ok hOK (Or.inr (Or.inr (Or.inl ⟨rfl, ndif_lt (n := 6) hOK.1.2.2.1⟩))))
          refine px_aload_n dX6_cover_121 rfl ?_
          refine px_iload_n dX6_cover_122 rfl ?_
          refine px_iconst (v := nI 0) dX6_cover_123 (by decide) ?_
          refine px_callV (M2 := mX6_goOn) (c_X6_goOn hI2 k (by omega) (by show (O.1.1 0).2 4 + k < 2 ^ 30; omega) (nI 0) hm0 hb0) mw_X6_goOn wm_X6_goOn we_X6_goOn (Or.inl ml_X6_144) dX6_cover_124 MH_obj rfl (by decide) rfl rfl (Nat.le_of_ble_eq_true rfl) ⟨Nat.zero_le _, Nat.zero_le _⟩ (fun v h2 hq => ?_)
          obtain ⟨rfl, D3, hI3, rfl⟩ := hq
          refine px_aload_n dX6_cover_127 rfl ?_
          refine px_get xk_X6 8 dX6_cover_128 (Or.inl fl_X6_26) MH_obj (by decide) rfl ?_
          refine px_bipush (v := nI 21) dX6_cover_131 (by decide) ?_
          refine px_bL (b := 1) rfl dX6_cover_133 (by decide) (by omega) (hI3.2.1.sw) ?_
          refine px_iload_n dX6_cover_134 rfl ?_
          refine px_si (c_X6_has_n ((tnights (tSS (O.1.1 0) 2 (ndif ((O.1.1 0).2 2) i)) hm0 k).2 3) a (by have := hI3.2.2.1.2.2.2.1; omega) (by omega)) mw_X6_has wt_X6_has (Or.inl ml_X6_50) dX6_cover_135 (by decide) rfl rfl (Nat.le_of_ble_eq_true rfl) ⟨rfl, rfl⟩ ?_
          refine px_if_eqB 146 dX6_cover_138 (by decide) (fun c138 => ?_) (fun c138 => ?_)
          · refine px_iload dX6_cover_146 rfl ?_
            refine px_ist_5 dX6_cover_148 (by decide) rfl ?_
            refine px_inc_6 dX6_cover_150 rfl (nI_1 _) (by decide) rfl ?_
            refine px_goto 61 dX6_cover_153 (by decide) ?_
            refine px_eq (lo2 := [some (.ref w), some (.int (nI a)), some (.int (nI k)), some (.int (nI u)), some (.int (nI (canS (O.1.1 0) a))), some (.int (oI (tcov (O.1.1 0) a k (canS (O.1.1 0) a) (i + 1)))), some (.int (nI (i + 1)))]) ?_ rfl rfl (ih (i + 1) D3 (by omega) (by omega) hI3.1)
            rw [tcov_n (Or.inr (Or.inr c138)), hv]
            try rfl
          · refine px_iload dX6_cover_141 rfl ?_
            refine px_goto 148 dX6_cover_143 (by decide) ?_
            refine px_ist_5 dX6_cover_148 (by decide) rfl ?_
            refine px_inc_6 dX6_cover_150 rfl (nI_1 _) (by decide) rfl ?_
            refine px_goto 61 dX6_cover_153 (by decide) ?_
            refine px_eq (lo2 := [some (.ref w), some (.int (nI a)), some (.int (nI k)), some (.int (nI u)), some (.int (nI (canS (O.1.1 0) a))), some (.int (oI (tcov (O.1.1 0) a k (canS (O.1.1 0) a) (i + 1)))), some (.int (nI (i + 1)))]) ?_ rfl rfl (ih (i + 1) D3 (by omega) (by omega) hI3.1)
            rw [tcov_y (Or.inl hv) c75 c138]
            try rfl
    · have hbb := tcov_lt hv
      have hq1 := bc_6 i
      have hq2 := bc_6 bb
      refine px_eq (lo2 := [some (.ref w), some (.int (nI a)), some (.int (nI k)), some (.int (nI u)), some (.int (nI (canS (O.1.1 0) a))), some (.int (nI bb)), some (.int (nI i))]) rfl rfl rfl ?_
      refine px_iload dX6_cover_61 rfl ?_
      refine px_iload dX6_cover_63 rfl ?_
      refine px_icmp_gtN 156 dX6_cover_65 (by decide) (by omega) (by omega) (fun c65 => ?_) (fun c65 => ?_)
      · refine px_iload dX6_cover_156 rfl ?_
        refine px_bipush (v := -4) dX6_cover_158 (by decide) ?_
        refine px_icmp_ne 168 dX6_cover_160 (by decide) (fun c160 => ?_) (fun c160 => ?_)
        · refine px_iload_n dX6_cover_168 rfl ?_
          refine px_if_neN 180 dX6_cover_169 (by decide) (by omega) (fun c169 => ?_) (fun c169 => ?_)
          · refine px_iload dX6_cover_180 rfl ?_
            have hi : i = canS (O.1.1 0) a + 1 := by omega
            subst hi
            exact px_iret dX6_cover_182 rfl rfl rfl ⟨(by show _ = some (Value.int (tcvO (tcov (O.1.1 0) a k (ndif ((O.1.1 0).2 2) (2 ^ a)) 64) u)); rw [cov_eq hOK, hv]; show _ = some (Value.int (if u = 1 then nI bb else nI (bc bb))); rw [if_pos (by omega)]), D, hR, rfl⟩
          · refine px_iload dX6_cover_172 rfl ?_
            refine px_si (c_X6_bits bb (by omega)) mw_X6_bits wt_X6_bits (Or.inl ml_X6_152) dX6_cover_174 (by decide) rfl rfl (Nat.le_of_ble_eq_true rfl) ⟨rfl, rfl⟩ ?_
            refine px_goto 182 dX6_cover_177 (by decide) ?_
            have hi : i = canS (O.1.1 0) a + 1 := by omega
            subst hi
            exact px_iret dX6_cover_182 rfl rfl rfl ⟨(by show _ = some (Value.int (tcvO (tcov (O.1.1 0) a k (ndif ((O.1.1 0).2 2) (2 ^ a)) 64) u)); rw [cov_eq hOK, hv]; show _ = some (Value.int (if u = 1 then nI bb else nI (bc bb))); rw [if_neg (by omega)]), D, hR, rfl⟩
        · exact absurd c160 (nI_m4 (by omega))
      · refine px_iload dX6_cover_68 rfl ?_
        refine px_iload dX6_cover_70 rfl ?_
        refine px_iconst (v := -1) dX6_cover_72 (by decide) ?_
        refine px_ixor dX6_cover_73 ?_
        refine px_iand dX6_cover_74 (px_topi (nx_dif _ _) ?_)
        have hnd : ndif i (canS (O.1.1 0) a) < 2 ^ 6 := ndif_lt (by omega)
        refine px_if_neN 150 dX6_cover_75 (by decide) (by omega) (fun c75 => ?_) (fun c75 => ?_)
        · refine px_inc_6 dX6_cover_150 rfl (nI_1 _) (by decide) rfl ?_
          refine px_goto 61 dX6_cover_153 (by decide) ?_
          refine px_eq (lo2 := [some (.ref w), some (.int (nI a)), some (.int (nI k)), some (.int (nI u)), some (.int (nI (canS (O.1.1 0) a))), some (.int (oI (tcov (O.1.1 0) a k (canS (O.1.1 0) a) (i + 1)))), some (.int (nI (i + 1)))]) ?_ rfl rfl (ih (i + 1) D (by omega) (by omega) hR)
          rw [tcov_n (Or.inr (Or.inl c75)), hv]
          try rfl
        · refine px_iload dX6_cover_78 rfl ?_
          refine px_bipush (v := -4) dX6_cover_80 (by decide) ?_
          refine px_icmp_eq 98 dX6_cover_82 (by decide) (fun c82 => ?_) (fun c82 => ?_)
          · exact absurd c82 (nI_m4 (by omega))
          · refine px_iload dX6_cover_85 rfl ?_
            refine px_si (c_X6_bits i (by omega)) mw_X6_bits wt_X6_bits (Or.inl ml_X6_152) dX6_cover_87 (by decide) rfl rfl (Nat.le_of_ble_eq_true rfl) ⟨rfl, rfl⟩ ?_
            refine px_iload dX6_cover_90 rfl ?_
            refine px_si (c_X6_bits bb (by omega)) mw_X6_bits wt_X6_bits (Or.inl ml_X6_152) dX6_cover_92 (by decide) rfl rfl (Nat.le_of_ble_eq_true rfl) ⟨rfl, rfl⟩ ?_
            refine px_icmp_geN 150 dX6_cover_95 (by decide) (by omega) (by omega) (fun c95 => ?_) (fun c95 => ?_)
            · refine px_inc_6 dX6_cover_150 rfl (nI_1 _) (by decide) rfl ?_
              refine px_goto 61 dX6_cover_153 (by decide) ?_
              refine px_eq (lo2 := [some (.ref w), some (.int (nI a)), some (.int (nI k)), some (.int (nI u)), some (.int (nI (canS (O.1.1 0) a))), some (.int (oI (tcov (O.1.1 0) a k (canS (O.1.1 0) a) (i + 1)))), some (.int (nI (i + 1)))]) ?_ rfl rfl (ih (i + 1) D (by omega) (by omega) hR)
              rw [tcov_n (Or.inl ⟨bb, hv, c95⟩), hv]
              try rfl
            · refine px_aload_n dX6_cover_98 rfl ?_
              refine px_callV (M2 := mX6_begin) (c_X6_begin hR) mw_X6_begin wm_X6_begin we_X6_begin (Or.inl ml_X6_141) dX6_cover_99 MH_obj rfl (by decide) rfl rfl (Nat.le_of_ble_eq_true rfl) ⟨Nat.zero_le _, Nat.zero_le _⟩ (fun v h2 hq => ?_)
              obtain ⟨rfl, D1, hI1, rfl⟩ := hq
              refine px_aload_n dX6_cover_102 rfl ?_
              refine px_get xk_X6 8 dX6_cover_103 (Or.inl fl_X6_26) MH_obj (by decide) rfl ?_
              refine px_bipush (v := nI 20) dX6_cover_106 (by decide) ?_
              refine px_aload_n dX6_cover_108 rfl ?_
              refine px_get xk_X6 8 dX6_cover_109 (Or.inl fl_X6_26) MH_obj (by decide) rfl ?_
              refine px_bipush (v := nI 20) dX6_cover_112 (by decide) ?_
              refine px_bL (b := 1) rfl dX6_cover_114 (by decide) (by omega) (hI1.2.1.sh) ?_
              refine px_iload dX6_cover_115 rfl ?_
              refine px_iconst (v := -1) dX6_cover_117 (by decide) ?_
              refine px_ixor dX6_cover_118 ?_
              refine px_iand dX6_cover_119 (px_topi (nx_dif _ _) ?_)
              refine px_bW (b := 1) dX6_cover_120 (by decide) (by decide) ?_
              have hI2 := hI1.set (hI1.2.1.ups2 hm6 hm4 (v := ndif ((O.1.1 0).2 2) i)) (tSS_ok hOK (Or.inr (Or.inr (Or.inl ⟨rfl, ndif_lt (n := 6) hOK.1.2.2.1⟩))))
              refine px_aload_n dX6_cover_121 rfl ?_
              refine px_iload_n dX6_cover_122 rfl ?_
              refine px_iconst (v := nI 0) dX6_cover_123 (by decide) ?_
              refine px_callV (M2 := mX6_goOn) (c_X6_goOn hI2 k (by omega) (by show (O.1.1 0).2 4 + k < 2 ^ 30; omega) (nI 0) hm0 hb0) mw_X6_goOn wm_X6_goOn we_X6_goOn (Or.inl ml_X6_144) dX6_cover_124 MH_obj rfl (by decide) rfl rfl (Nat.le_of_ble_eq_true rfl) ⟨Nat.zero_le _, Nat.zero_le _⟩ (fun v h2 hq => ?_)
              obtain ⟨rfl, D3, hI3, rfl⟩ := hq
              refine px_aload_n dX6_cover_127 rfl ?_
              refine px_get xk_X6 8 dX6_cover_128 (Or.inl fl_X6_26) MH_obj (by decide) rfl ?_
              refine px_bipush (v := nI 21) dX6_cover_131 (by decide) ?_
              refine px_bL (b := 1) rfl dX6_cover_133 (by decide) (by omega) (hI3.2.1.sw) ?_
              refine px_iload_n dX6_cover_134 rfl ?_
              refine px_si (c_X6_has_n ((tnights (tSS (O.1.1 0) 2 (ndif ((O.1.1 0).2 2) i)) hm0 k).2 3) a (by have := hI3.2.2.1.2.2.2.1; omega) (by omega)) mw_X6_has wt_X6_has (Or.inl ml_X6_50) dX6_cover_135 (by decide) rfl rfl (Nat.le_of_ble_eq_true rfl) ⟨rfl, rfl⟩ ?_
              refine px_if_eqB 146 dX6_cover_138 (by decide) (fun c138 => ?_) (fun c138 => ?_)
              · refine px_iload dX6_cover_146 rfl ?_
                refine px_ist_5 dX6_cover_148 (by decide) rfl ?_
                refine px_inc_6 dX6_cover_150 rfl (nI_1 _) (by decide) rfl ?_
                refine px_goto 61 dX6_cover_153 (by decide) ?_
                refine px_eq (lo2 := [some (.ref w), some (.int (nI a)), some (.int (nI k)), some (.int (nI u)), some (.int (nI (canS (O.1.1 0) a))), some (.int (oI (tcov (O.1.1 0) a k (canS (O.1.1 0) a) (i + 1)))), some (.int (nI (i + 1)))]) ?_ rfl rfl (ih (i + 1) D3 (by omega) (by omega) hI3.1)
                rw [tcov_n (Or.inr (Or.inr c138)), hv]
                try rfl
              · refine px_iload dX6_cover_141 rfl ?_
                refine px_goto 148 dX6_cover_143 (by decide) ?_
                refine px_ist_5 dX6_cover_148 (by decide) rfl ?_
                refine px_inc_6 dX6_cover_150 rfl (nI_1 _) (by decide) rfl ?_
                refine px_goto 61 dX6_cover_153 (by decide) ?_
                refine px_eq (lo2 := [some (.ref w), some (.int (nI a)), some (.int (nI k)), some (.int (nI u)), some (.int (nI (canS (O.1.1 0) a))), some (.int (oI (tcov (O.1.1 0) a k (canS (O.1.1 0) a) (i + 1)))), some (.int (nI (i + 1)))]) ?_ rfl rfl (ih (i + 1) D3 (by omega) (by omega) hI3.1)
                rw [tcov_y (Or.inr ⟨bb, hv, c95⟩) c75 c138]
                try rfl
set_option maxHeartbeats 4000000 in
set_option maxRecDepth 100000 in
theorem c_X6_cover_n {E : xE} {h : xHp} {w : Nat} {D : xMd} {O : xO} (hR : Rel O D) (x y u : Int32) (hx : ¬ ((0 ≤ x ∧ x < nI ((O.1.1 0).2 0)) ∧ (nI 1 ≤ y ∧ y ≤ nI 40) ∧ (nI 0 ≤ u ∧ u ≤ nI 1))) : PMX E mX6_cover [.ref w, .int x, .int y, .int u] h w D (-1) O := by
  have R := hR.1.1
  have hOK := hR.1.2.1.1
  have hm6 := hOK.1.1
  have hm4 := hOK.1.2.1
  have hN9 := hR.1.2.1.2
  refine pm_of [some (.ref w), some (.int x), some (.int y), some (.int u), none, none, none] (by decide +kernel) (Nat.le_of_ble_eq_true rfl) rfl ?_
  refine px_aload_n dX6_cover_0 rfl ?_
  refine px_iload_n dX6_cover_1 rfl ?_
  refine px_vi (M2 := mX6_isOne) (c_X6_isOne R hOK x) mw_X6_isOne wm_X6_isOne we_X6_isOne (Or.inl ml_X6_58) dX6_cover_2 (MH_obj) rfl (by decide) rfl rfl (Nat.le_of_ble_eq_true rfl) ⟨rfl, rfl⟩ ?_
  refine px_if_eqB 27 dX6_cover_5 (by decide) (fun c5 => ?_) (fun c5 => ?_)
  · refine px_iconst (v := -1) dX6_cover_27 (by decide) ?_
    exact px_iret dX6_cover_28 rfl rfl rfl ⟨rfl, D, hR, rfl⟩
  · refine px_iload_n dX6_cover_8 rfl ?_
    refine px_iconst (v := nI 1) dX6_cover_9 (by decide) ?_
    refine px_bipush (v := nI 40) dX6_cover_10 (by decide) ?_
    refine px_si (c_X6_in (y) (nI 1) (nI 40)) mw_X6_in wt_X6_in (Or.inl ml_X6_38) dX6_cover_12 (by decide) rfl rfl (Nat.le_of_ble_eq_true rfl) ⟨rfl, rfl⟩ ?_
    refine px_if_eqB 27 dX6_cover_15 (by decide) (fun c15 => ?_) (fun c15 => ?_)
    · refine px_iconst (v := -1) dX6_cover_27 (by decide) ?_
      exact px_iret dX6_cover_28 rfl rfl rfl ⟨rfl, D, hR, rfl⟩
    · refine px_iload_n dX6_cover_18 rfl ?_
      refine px_iconst (v := nI 0) dX6_cover_19 (by decide) ?_
      refine px_iconst (v := nI 1) dX6_cover_20 (by decide) ?_
      refine px_si (c_X6_in (u) (nI 0) (nI 1)) mw_X6_in wt_X6_in (Or.inl ml_X6_38) dX6_cover_21 (by decide) rfl rfl (Nat.le_of_ble_eq_true rfl) ⟨rfl, rfl⟩ ?_
      refine px_if_neB 29 dX6_cover_24 (by decide) (fun c24 => ?_) (fun c24 => ?_)
      · exact absurd ⟨of_decide_eq_true c5, of_decide_eq_true c15, of_decide_eq_true c24⟩ hx
      · refine px_iconst (v := -1) dX6_cover_27 (by decide) ?_
        exact px_iret dX6_cover_28 rfl rfl rfl ⟨rfl, D, hR, rfl⟩
set_option maxHeartbeats 4000000 in
set_option maxRecDepth 100000 in
theorem c_X6_cover {E : xE} {h : xHp} {w : Nat} {D : xMd} {O : xO} (hR : Rel O D) (a k u : Nat) (ha : a < (O.1.1 0).2 0) (h1 : 1 ≤ k) (hk : k ≤ 40) (hu : u ≤ 1) : PMX E mX6_cover [.ref w, .int (nI a), .int (nI k), .int (nI u)] h w D (tcvr (O.1.1 0) a k u) O := by
  have R := hR.1.1
  have hOK := hR.1.2.1.1
  have hm6 := hOK.1.1
  have hm4 := hOK.1.2.1
  have hN9 := hR.1.2.1.2
  refine pm_of [some (.ref w), some (.int (nI a)), some (.int (nI k)), some (.int (nI u)), none, none, none] (by decide +kernel) (Nat.le_of_ble_eq_true rfl) rfl ?_
  refine px_aload_n dX6_cover_0 rfl ?_
  refine px_iload_n dX6_cover_1 rfl ?_
  refine px_vi (M2 := mX6_isOne) (c_m1_y R hOK ha) mw_X6_isOne wm_X6_isOne we_X6_isOne (Or.inl ml_X6_58) dX6_cover_2 (MH_obj) rfl (by decide) rfl rfl (Nat.le_of_ble_eq_true rfl) ⟨rfl, rfl⟩ ?_
  refine px_if_eqB 27 dX6_cover_5 (by decide) (fun c5 => ?_) (fun c5 => ?_)
  · cases c5
  · refine px_iload_n dX6_cover_8 rfl ?_
    refine px_iconst (v := nI 1) dX6_cover_9 (by decide) ?_
    refine px_bipush (v := nI 40) dX6_cover_10 (by decide) ?_
    refine px_si (c_X6_in (nI k) (nI 1) (nI 40)) mw_X6_in wt_X6_in (Or.inl ml_X6_38) dX6_cover_12 (by decide) rfl rfl (Nat.le_of_ble_eq_true rfl) ⟨rfl, rfl⟩ ?_
    refine px_if_eqB 27 dX6_cover_15 (by decide) (fun c15 => ?_) (fun c15 => ?_)
    · rw [in_t (by omega) (by omega) (by decide)] at c15
      cases c15
    · refine px_iload_n dX6_cover_18 rfl ?_
      refine px_iconst (v := nI 0) dX6_cover_19 (by decide) ?_
      refine px_iconst (v := nI 1) dX6_cover_20 (by decide) ?_
      refine px_si (c_X6_in (nI u) (nI 0) (nI 1)) mw_X6_in wt_X6_in (Or.inl ml_X6_38) dX6_cover_21 (by decide) rfl rfl (Nat.le_of_ble_eq_true rfl) ⟨rfl, rfl⟩ ?_
      refine px_if_neB 29 dX6_cover_24 (by decide) (fun c24 => ?_) (fun c24 => ?_)
      · refine px_aload_n dX6_cover_29 rfl ?_
        refine px_get xk_X6 7 dX6_cover_30 (Or.inl fl_X6_23) MH_obj (by decide) rfl ?_
        refine px_bipush (v := nI 20) dX6_cover_33 (by decide) ?_
        refine px_bL (b := 0) rfl dX6_cover_35 (by decide) (by omega) (R.sh) ?_
        refine px_aload_n dX6_cover_36 rfl ?_
        refine px_get xk_X6 7 dX6_cover_37 (Or.inl fl_X6_23) MH_obj (by decide) rfl ?_
        refine px_bipush (v := nI 21) dX6_cover_40 (by decide) ?_
        refine px_bL (b := 0) rfl dX6_cover_42 (by decide) (by omega) (R.sw) ?_
        refine px_iconst (v := -1) dX6_cover_43 (by decide) ?_
        refine px_ixor dX6_cover_44 ?_
        refine px_iand dX6_cover_45 (px_topi (nx_dif _ _) ?_)
        refine px_iconst (v := nI 1) dX6_cover_46 (by decide) ?_
        refine px_iload_n dX6_cover_47 rfl ?_
        refine px_ishl1 dX6_cover_48 (by omega) ?_
        refine px_iconst (v := -1) dX6_cover_49 (by decide) ?_
        refine px_ixor dX6_cover_50 ?_
        refine px_iand dX6_cover_51 (px_topi (nx_dif _ _) ?_)
        refine px_ist_4 dX6_cover_52 (by decide) rfl ?_
        refine px_bipush (v := -4) dX6_cover_54 (by decide) ?_
        refine px_ist_5 dX6_cover_56 (by decide) rfl ?_
        refine px_iconst (v := nI 0) dX6_cover_58 (by decide) ?_
        refine px_ist_6 dX6_cover_59 (by decide) rfl ?_
        exact l_X6_cover a k u ha h1 hk hu (canS (O.1.1 0) a + 2) 0 D (Nat.zero_le _) (by omega) hR
      · rw [in_t (by omega) (by omega) (by decide)] at c24
        cases c24
