/-! Past's constructor -/
def phR (b i : Nat) : Nat → Option Nat := fun s => if i ≤ s ∧ s < 8 then none else some (b + 2 + 7 * s)
def piC (E : xE) (b i : Nat) (o : Nat) : Option va_E := if o = 0 then some (.inr (1, [.ref (b + 1), .int (nI 0), .int (nI 0)])) else if o = 1 then some (.inl (E.1.2 3, 8, .inr (.inr (.inr (.inr (phR b i)))))) else phC E b P00 o
theorem phR_up (b i : Nat) (hi : i < 8) : va_up (phR b i) i (some (b + (2 + 7 * i))) = phR b (i + 1) := by
  funext s
  unfold phR
  by_cases hs : s = i
  · subst hs
    rw [va_up_self, if_neg (by omega), show b + (2 + 7 * s) = b + 2 + 7 * s by omega]
  · rw [va_up_ne _ _ hs]
    by_cases h1 : i ≤ s ∧ s < 8
    · rw [if_pos h1, if_pos (by omega)]
    · rw [if_neg h1, if_neg (by omega)]
theorem pi_app {E : xE} {h : xHp} {b i : Nat} : TH E (putB h b (2 + 7 * i) (piC E b i)) (b + (2 + 7 * i)) T0 = putB h b (2 + 7 * (i + 1)) (piC E b i) := by
  unfold TH
  rw [putB_app, show 2 + 7 * i + 7 = 2 + 7 * (i + 1) by omega]
  refine putB_congr (fun o ho => ?_)
  by_cases h1 : o < 2 + 7 * i
  · rw [if_pos h1]
  · rw [if_neg h1]
    unfold piC phC
    rw [if_neg (show ¬ o = 0 by omega), if_neg (show ¬ o = 1 by omega), if_neg (show ¬ o = 0 by omega), if_neg (show ¬ o = 1 by omega)]
    have e1 : (o - 2) / 7 = i := by omega
    have e2 : (o - 2) % 7 = o - (2 + 7 * i) := by omega
    rw [e1, e2, show b + 2 + 7 * i = b + (2 + 7 * i) by omega]
    rfl
theorem pi_up {E : xE} {h : xHp} {b i L : Nat} (hi : i < 8) (hL : 1 < L) : va_up (putB h b L (piC E b i)) (b + 1) (some (.inl (E.1.2 3, 8, .inr (.inr (.inr (.inr (va_up (phR b i) i (some (b + (2 + 7 * i)))))))))) = putB h b L (piC E b (i + 1)) := by
  rw [putB_up hL, phR_up b i hi]
  refine putB_congr (fun o ho => ?_)
  by_cases h1 : o = 1
  · subst h1; rw [va_up_self]; rfl
  · rw [va_up_ne _ _ h1]
    unfold piC
    by_cases h0 : o = 0
    · rw [if_pos h0, if_pos h0]
    · rw [if_neg h0, if_neg h0, if_neg h1, if_neg h1]
theorem pi_8 {E : xE} {b : Nat} (o : Nat) : piC E b 8 o = phC E b P00 o := by
  unfold piC phC
  by_cases h0 : o = 0
  · rw [if_pos h0, if_pos h0]; rfl
  · rw [if_neg h0, if_neg h0]
    by_cases h1 : o = 1
    · rw [if_pos h1, if_pos h1]
      congr 8
      funext s
      unfold phR
      rw [if_neg (by omega)]
    · rw [if_neg h1, if_neg h1]
set_option maxHeartbeats 4000000 in
set_option maxRecDepth 100000 in
theorem l_X1_init {E : xE} {h : xHp} {b : Nat} : ∀ (n i : Nat), i + n = 8 → xSz E (putB h b (2 + 7 * i) (piC E b i)) (b + (2 + 7 * i)) → PW E mX1_init (fun v h' => v = none ∧ h' = PH E h b P00 ∧ xSz E h' (b + 58)) (1 + 7 * i) (8 + 45 * i) 15 [some (.ref b), some (.int (nI i))] [] (putB h b (2 + 7 * i) (piC E b i)) := by
  intro n
  induction n with
  | zero =>
    intro i h1 hs
    have hi : i = 8 := by omega
    subst hi
    refine px_iload_n dX1_init_15 rfl ?_
    refine px_bipush (v := nI 8) dX1_init_16 (by decide) ?_
    refine px_icmp_geN 40 dX1_init_18 (by decide) (by decide) (by decide) (fun _ => ?_) (fun z => absurd z (by decide))
    refine px_heap (h2 := PH E h b P00) (putB_congr (fun o _ => pi_8 o)) ?_
    exact px_vret dX1_init_40 rfl rfl rfl ⟨rfl, rfl, xSz_B hs rfl (fun o _ => pi_8 o)⟩
  | succ n ih =>
    intro i h1 hs
    have hi : i < 8 := by omega
    refine px_iload_n dX1_init_15 rfl ?_
    refine px_bipush (v := nI 8) dX1_init_16 (by decide) ?_
    refine px_icmp_geN 40 dX1_init_18 (by decide) (by omega) (by decide) (fun z => by omega) (fun _ => ?_)
    refine px_aload_n dX1_init_21 rfl ?_
    refine px_get xk_X1 0 dX1_init_22 (Or.inl fl_X1_11) ((putB_0 (by omega)).trans rfl) (by decide) rfl ?_
    refine px_iload_n dX1_init_25 rfl ?_
    refine px_newP (fs := dfX4) xk_X4 dX1_init_26 cl_X1_9 in_X4 wi_RobbedOnce_Town hs dfX4_ok ⟨by show 1 + 7 * i + 1 ≤ 57; omega, by show 8 + 45 * i + 13 ≤ 368; omega⟩ (fun hs1 => ?_)
    refine px_dup dX1_init_29 rfl ?_
    refine px_callI (M2 := mX4_init) (c_X4_init hs1) mw_X4_init wm_X4_init rfl rfl (Or.inr ⟨_, ml_X1_17⟩) dX1_init_30 (by decide) rfl rfl (Nat.le_of_ble_eq_true rfl) ⟨by show 1 + 7 * i + 1 + 6 ≤ 57; omega, by show 8 + 45 * i + 13 + 32 ≤ 368; omega⟩ (fun v h2 hq => ?_)
    obtain ⟨rfl, rfl, hs1⟩ := hq
    rw [pi_app] at hs1
    refine px_heap pi_app ?_
    refine px_aast (t0 := 3) (ci := 4) (i := i) dX1_init_33 ((putB_at (j := 1) (by omega)).trans rfl) rfl ((show putB h b (2 + 7 * (i + 1)) (piC E b i) (b + (2 + 7 * i)) = twC E (b + (2 + 7 * i)) T0 0 by rw [← pi_app]; exact TH_obj)) rfl hi (by decide) ?_
    have hs2 := xSz_put (e := .inl (E.1.2 3, 8, .inr (.inr (.inr (.inr (va_up (phR b i) i (some (b + (2 + 7 * i))))))))) hs1 ((putB_at (j := 1) (by omega)).trans rfl)
    rw [pi_up hi (by omega)] at hs2
    refine px_heap (pi_up hi (by omega)) ?_
    refine px_inc_1 dX1_init_34 rfl (nI_1 _) (by decide) rfl ?_
    refine px_goto 15 dX1_init_37 (by decide) ?_
    exact px_kn (show 1 + 7 * i + 1 + 6 = 1 + 7 * (i + 1) by omega) (show 8 + 45 * i + 13 + 32 = 8 + 45 * (i + 1) by omega) (ih (i + 1) (by omega) (by rw [show b + (2 + 7 * (i + 1)) = b + (2 + 7 * i) + 7 by omega]; exact hs2))
set_option maxHeartbeats 4000000 in
set_option maxRecDepth 100000 in
theorem c_X1_init {E : xE} {h : xHp} {b : Nat} (hs0 : xSz E (putB h b 1 (fun _ => some (.inr (1, dfX1)))) (b + 1)) : PMet E mX1_init [.ref b] (putB h b 1 (fun _ => some (.inr (1, dfX1)))) (fun v h' => v = none ∧ h' = PH E h b P00 ∧ xSz E h' (b + 58)) := by
  refine pm_of [some (.ref b), none] (by decide +kernel) (Nat.le_of_ble_eq_true rfl) rfl ?_
  refine px_aload_n dX1_init_0 rfl ?_
  refine px_objInit dX1_init_1 ml_X1_3 wm_objectInit wc_objectInit (Nat.le_of_ble_eq_true rfl) (Nat.le_of_ble_eq_true rfl) ?_
  refine px_aload_n dX1_init_4 rfl ?_
  refine px_bipush (v := nI 8) dX1_init_5 (by decide) ?_
  refine px_anew (t0 := 3) (f0 := phR b 0) dX1_init_7 cl_X1_9 (fun s H hx => hx.2.2.2.1) rfl (by decide) (fun q hq => if_pos ⟨Nat.zero_le _, hq⟩) hs0 ⟨Nat.le_of_ble_eq_true rfl, Nat.le_of_ble_eq_true rfl⟩ ?_
  have hs1 := xSz_new (e := .inl (E.1.2 3, 8, .inr (.inr (.inr (.inr (phR b 0)))))) hs0
  rw [putB_push] at hs1
  refine px_heap putB_push ?_
  refine px_pF0 xk_X1 0 dX1_init_10 fl_X1_11 rfl (by decide) (by decide) (by show 0 < 3; decide) rfl rfl rfl rfl rfl hs1 (fun hs2 => ?_)
  refine px_heap (h2 := putB h b (2 + 7 * 0) (piC E b 0)) (putB_congr (fun o ho => match o, ho with | 0, _ => rfl | 1, _ => rfl)) ?_
  refine px_iconst (v := nI 0) dX1_init_13 (by decide) ?_
  refine px_istn_1 dX1_init_14 (by decide) rfl ?_
  exact l_X1_init 8 0 rfl (xSz_B hs2 rfl (fun o ho => match o, ho with | 0, _ => rfl | 1, _ => rfl))
/-! RobbedOnce's constructor -/
def shR (z i : Nat) : Nat → Option Nat := fun s => if i ≤ s ∧ s < 4 then none else some (z + 149 + 2 * s)
def riC (E : xE) (z : Nat) (Ob Rw : Option va_E) (o : Nat) : Option va_E := if o = 0 then Ob else if o = 148 then Rw else roC E z O00 o
abbrev shC4 (E : xE) (z i : Nat) : Option va_E := some (.inl (E.1.2 4, 4, .inr (.inr (.inr (.inr (shR z i))))))
theorem ri_app {E : xE} {h : xHp} {z L m : Nat} {Ob Rw : Option va_E} {g : Nat → Option va_E} (hL : 0 < L) (hg : ∀ q, q < m → L + q ≠ 148 ∧ roC E z O00 (L + q) = g q) : putB (putB h z L (riC E z Ob Rw)) (z + L) m g = putB h z (L + m) (riC E z Ob Rw) := by
  rw [putB_app]
  refine putB_congr (fun o ho => ?_)
  by_cases h1 : o < L
  · rw [if_pos h1]
  · rw [if_neg h1]
    obtain ⟨e1, e2⟩ := hg (o - L) (by omega)
    rw [show L + (o - L) = o by omega] at e1 e2
    unfold riC
    rw [if_neg (by omega), if_neg e1, e2]
theorem ri_u0 {E : xE} {z L : Nat} {Ob Rw Oc : Option va_E} : ∀ o, o < L → va_up (riC E z Ob Rw) 0 Oc o = riC E z Oc Rw o := by
  intro o _
  by_cases h0 : o = 0
  · subst h0; rw [va_up_self]; rfl
  · rw [va_up_ne _ _ h0]
    unfold riC
    rw [if_neg h0, if_neg h0]
theorem shR_up (z i : Nat) (hi : i < 4) : va_up (shR z i) i (some (z + (149 + 2 * i))) = shR z (i + 1) := by
  funext s
  unfold shR
  by_cases hs : s = i
  · subst hs
    rw [va_up_self, if_neg (by omega), show z + (149 + 2 * s) = z + 149 + 2 * s by omega]
  · rw [va_up_ne _ _ hs]
    by_cases h1 : i ≤ s ∧ s < 4
    · rw [if_pos h1, if_pos (by omega)]
    · rw [if_neg h1, if_neg (by omega)]
theorem ri_row {E : xE} {h : xHp} {z i L : Nat} {Ob : Option va_E} (hi : i < 4) (hL : 148 < L) : va_up (putB h z L (riC E z Ob (shC4 E z i))) (z + 148) (some (.inl (E.1.2 4, 4, .inr (.inr (.inr (.inr (va_up (shR z i) i (some (z + (149 + 2 * i)))))))))) = putB h z L (riC E z Ob (shC4 E z (i + 1))) := by
  rw [putB_up hL, shR_up z i hi]
  refine putB_congr (fun o ho => ?_)
  by_cases h1 : o = 148
  · subst h1; rw [va_up_self]; rfl
  · rw [va_up_ne _ _ h1]
    unfold riC
    by_cases h0 : o = 0
    · rw [if_pos h0, if_pos h0]
    · rw [if_neg h0, if_neg h0, if_neg h1, if_neg h1]
abbrev ob5 (z : Nat) : Option va_E := some (.inr (5, [.ref (z + 1), .ref (z + 8), .ref (z + 66), .ref (z + 73), .int (nI 0), .ref (z + 131), .ref (z + 139), .ref (z + 141), .ref (z + 148)]))
theorem ri_end {E : xE} {z : Nat} (o : Nat) : riC E z (ob5 z) (shC4 E z 4) o = roC E z O00 o := by
  unfold riC
  by_cases h0 : o = 0
  · subst h0; rfl
  · rw [if_neg h0]
    by_cases h1 : o = 148
    · subst h1
      rw [if_pos rfl]
      show shC4 E z 4 = some (.inl (E.1.2 4, 4, .inr (.inr (.inr (.inr (fun s => some (z + 149 + 2 * s)))))))
      unfold shC4
      congr 8
      funext s
      unfold shR
      rw [if_neg (by omega)]
    · rw [if_neg h1]

theorem ri_1 {E : xE} {h : xHp} {z : Nat} {Ob Rw : Option va_E} : putB (putB h z 1 (riC E z Ob Rw)) (z + 1) 7 (twC E (z + 1) T0) = putB h z 8 (riC E z Ob Rw) := by
  refine ri_app (by decide) (fun q hq => ⟨by omega, ?_⟩)
  unfold roC
  rw [if_neg (show ¬ 1 + q = 0 by omega), if_pos (show 1 + q < 8 by omega), show 1 + q - 1 = q by omega]
  rfl
theorem ri_8 {E : xE} {h : xHp} {z : Nat} {Ob Rw : Option va_E} : putB (putB h z 8 (riC E z Ob Rw)) (z + 8) 58 (phC E (z + 8) P00) = putB h z 66 (riC E z Ob Rw) := by
  refine ri_app (by decide) (fun q hq => ⟨by omega, ?_⟩)
  unfold roC
  rw [if_neg (show ¬ 8 + q = 0 by omega), if_neg (show ¬ 8 + q < 8 by omega), if_pos (show 8 + q < 66 by omega), show 8 + q - 8 = q by omega]
  rfl
theorem ri_66 {E : xE} {h : xHp} {z : Nat} {Ob Rw : Option va_E} : putB (putB h z 66 (riC E z Ob Rw)) (z + 66) 7 (twC E (z + 66) T0) = putB h z 73 (riC E z Ob Rw) := by
  refine ri_app (by decide) (fun q hq => ⟨by omega, ?_⟩)
  unfold roC
  rw [if_neg (show ¬ 66 + q = 0 by omega), if_neg (show ¬ 66 + q < 8 by omega), if_neg (show ¬ 66 + q < 66 by omega), if_pos (show 66 + q < 73 by omega), show 66 + q - 66 = q by omega]
  rfl
theorem ri_73 {E : xE} {h : xHp} {z : Nat} {Ob Rw : Option va_E} : putB (putB h z 73 (riC E z Ob Rw)) (z + 73) 58 (phC E (z + 73) P00) = putB h z 131 (riC E z Ob Rw) := by
  refine ri_app (by decide) (fun q hq => ⟨by omega, ?_⟩)
  unfold roC
  rw [if_neg (show ¬ 73 + q = 0 by omega), if_neg (show ¬ 73 + q < 8 by omega), if_neg (show ¬ 73 + q < 66 by omega), if_neg (show ¬ 73 + q < 73 by omega), if_pos (show 73 + q < 131 by omega), show 73 + q - 73 = q by omega]
  rfl
theorem ri_139 {E : xE} {h : xHp} {z : Nat} {Ob Rw : Option va_E} : putB (putB h z 139 (riC E z Ob Rw)) (z + 139) 2 (khC E (z + 139) K00) = putB h z 141 (riC E z Ob Rw) := by
  refine ri_app (by decide) (fun q hq => ⟨by omega, ?_⟩)
  unfold roC
  rw [if_neg (show ¬ 139 + q = 0 by omega), if_neg (show ¬ 139 + q < 8 by omega), if_neg (show ¬ 139 + q < 66 by omega), if_neg (show ¬ 139 + q < 73 by omega), if_neg (show ¬ 139 + q < 131 by omega), if_neg (show ¬ 139 + q = 131 by omega), if_neg (show ¬ 139 + q < 139 by omega), if_pos (show 139 + q < 141 by omega), show 139 + q - 139 = q by omega]
  rfl
theorem ri_141 {E : xE} {h : xHp} {z : Nat} {Ob Rw : Option va_E} : putB (putB h z 141 (riC E z Ob Rw)) (z + 141) 7 (twC E (z + 141) T0) = putB h z 148 (riC E z Ob Rw) := by
  refine ri_app (by decide) (fun q hq => ⟨by omega, ?_⟩)
  unfold roC
  rw [if_neg (show ¬ 141 + q = 0 by omega), if_neg (show ¬ 141 + q < 8 by omega), if_neg (show ¬ 141 + q < 66 by omega), if_neg (show ¬ 141 + q < 73 by omega), if_neg (show ¬ 141 + q < 131 by omega), if_neg (show ¬ 141 + q = 131 by omega), if_neg (show ¬ 141 + q < 139 by omega), if_neg (show ¬ 141 + q < 141 by omega), if_pos (show 141 + q < 148 by omega), show 141 + q - 141 = q by omega]
  rfl
theorem ri_131 {E : xE} {h : xHp} {z : Nat} {Ob Rw : Option va_E} : putB (putB h z 131 (riC E z Ob Rw)) (z + 131) 8 (foC E (z + 131)) = putB h z 139 (riC E z Ob Rw) := by
  refine ri_app (by decide) (fun q hq => ⟨by omega, ?_⟩)
  by_cases hq0 : q = 0
  · subst hq0
    rfl
  · unfold roC foC
    rw [if_neg (show ¬ 131 + q = 0 by omega), if_neg (show ¬ 131 + q < 8 by omega), if_neg (show ¬ 131 + q < 66 by omega), if_neg (show ¬ 131 + q < 73 by omega), if_neg (show ¬ 131 + q < 131 by omega), if_neg (show ¬ 131 + q = 131 by omega), if_pos (show 131 + q < 139 by omega), if_neg hq0, show 131 + q - 132 = q - 1 by omega, show z + 131 + 1 = z + 132 by omega]
    rfl
theorem ri_149 {E : xE} {h : xHp} {z i : Nat} {Ob Rw : Option va_E} : SH E (putB h z (149 + 2 * i) (riC E z Ob Rw)) (z + (149 + 2 * i)) S00 = putB h z (149 + 2 * (i + 1)) (riC E z Ob Rw) := by
  rw [show 149 + 2 * (i + 1) = 149 + 2 * i + 2 by omega]
  refine ri_app (by omega) (fun q hq => ⟨by omega, ?_⟩)
  unfold roC
  rw [if_neg (show ¬ 149 + 2 * i + q = 0 by omega), if_neg (show ¬ 149 + 2 * i + q < 8 by omega), if_neg (show ¬ 149 + 2 * i + q < 66 by omega), if_neg (show ¬ 149 + 2 * i + q < 73 by omega), if_neg (show ¬ 149 + 2 * i + q < 131 by omega), if_neg (show ¬ 149 + 2 * i + q = 131 by omega), if_neg (show ¬ 149 + 2 * i + q < 139 by omega), if_neg (show ¬ 149 + 2 * i + q < 141 by omega), if_neg (show ¬ 149 + 2 * i + q < 148 by omega), if_neg (show ¬ 149 + 2 * i + q = 148 by omega)]
  have e1 : (149 + 2 * i + q - 149) / 2 = i := by omega
  have e2 : (149 + 2 * i + q - 149) % 2 = q := by omega
  rw [e1, e2, show z + 149 + 2 * i = z + (149 + 2 * i) by omega]
  rfl
set_option maxHeartbeats 4000000 in
set_option maxRecDepth 100000 in
theorem l_X5_init {E : xE} {h : xHp} {z : Nat} : ∀ (n i : Nat), i + n = 4 → xSz E (putB h z (149 + 2 * i) (riC E z (ob5 z) (shC4 E z i))) (z + (149 + 2 * i)) → PW E mX5_init (fun v h' => v = none ∧ h' = RO E h z O00 ∧ xSz E h' (z + 157)) (148 + 2 * i) (1010 + 27 * i) 91 [some (.ref z), some (.int (nI i))] [] (putB h z (149 + 2 * i) (riC E z (ob5 z) (shC4 E z i))) := by
  intro n
  induction n with
  | zero =>
    intro i h1 hs
    have hi : i = 4 := by omega
    subst hi
    refine px_iload_n dX5_init_91 rfl ?_
    refine px_iconst (v := nI 4) dX5_init_92 (by decide) ?_
    refine px_icmp_geN 115 dX5_init_93 (by decide) (by decide) (by decide) (fun _ => ?_) (fun z => absurd z (by decide))
    refine px_heap (h2 := RO E h z O00) (putB_congr (fun o _ => ri_end o)) ?_
    exact px_vret dX5_init_115 rfl rfl rfl ⟨rfl, rfl, xSz_B hs rfl (fun o _ => ri_end o)⟩
  | succ n ih =>
    intro i h1 hs
    have hi : i < 4 := by omega
    refine px_iload_n dX5_init_91 rfl ?_
    refine px_iconst (v := nI 4) dX5_init_92 (by decide) ?_
    refine px_icmp_geN 115 dX5_init_93 (by decide) (by omega) (by decide) (fun z => by omega) (fun _ => ?_)
    refine px_aload_n dX5_init_96 rfl ?_
    refine px_get xk_X5 8 dX5_init_97 (Or.inl fl_X5_48) ((putB_0 (by omega)).trans rfl) (by decide) rfl ?_
    refine px_iload_n dX5_init_100 rfl ?_
    refine px_newP (fs := dfX2) xk_X2 dX5_init_101 cl_X5_46 in_X2 wi_RobbedOnce_Sheet hs dfX2_ok ⟨by show 148 + 2 * i + 1 ≤ 156; omega, by show 1010 + 27 * i + 3 ≤ 1118; omega⟩ (fun hs1 => ?_)
    refine px_dup dX5_init_104 rfl ?_
    refine px_callI (M2 := mX2_init) (c_X2_init hs1) mw_X2_init wm_X2_init rfl rfl (Or.inr ⟨_, ml_X5_52⟩) dX5_init_105 (by decide) rfl rfl (Nat.le_of_ble_eq_true rfl) ⟨by show 148 + 2 * i + 1 + 1 ≤ 156; omega, by show 1010 + 27 * i + 3 + 24 ≤ 1118; omega⟩ (fun v h2 hq => ?_)
    obtain ⟨rfl, rfl, hs1⟩ := hq
    rw [ri_149] at hs1
    refine px_heap ri_149 ?_
    refine px_aast (t0 := 4) (ci := 2) (i := i) dX5_init_108 ((putB_at (j := 148) (by omega)).trans rfl) rfl ((show putB h z (149 + 2 * (i + 1)) (riC E z (ob5 z) (shC4 E z i)) (z + (149 + 2 * i)) = shC E (z + (149 + 2 * i)) S00 0 by rw [← ri_149]; exact SH_obj)) rfl hi (by decide) ?_
    have hs2 := xSz_put (e := .inl (E.1.2 4, 4, .inr (.inr (.inr (.inr (va_up (shR z i) i (some (z + (149 + 2 * i))))))))) hs1 ((putB_at (j := 148) (by omega)).trans rfl)
    rw [ri_row hi (by omega)] at hs2
    refine px_heap (ri_row hi (by omega)) ?_
    refine px_inc_1 dX5_init_109 rfl (nI_1 _) (by decide) rfl ?_
    refine px_goto 91 dX5_init_112 (by decide) ?_
    exact px_kn (show 148 + 2 * i + 1 + 1 = 148 + 2 * (i + 1) by omega) (show 1010 + 27 * i + 3 + 24 = 1010 + 27 * (i + 1) by omega) (ih (i + 1) (by omega) (by rw [show z + (149 + 2 * (i + 1)) = z + (149 + 2 * i) + 2 by omega]; exact hs2))
theorem ri_st {E : xE} {z : Nat} : ∀ o, o < 149 → va_up (va_up (riC E z (some (.inr (5, [.ref (z + 1), .ref (z + 8), .ref (z + 66), .ref (z + 73), .int (nI 0), .ref (z + 131), .ref (z + 139), .ref (z + 141), .null]))) none) 148 (shC4 E z 0)) 0 (ob5 z) o = riC E z (ob5 z) (shC4 E z 0) o := by
  intro o _
  by_cases h0 : o = 0
  · subst h0; rw [va_up_self]; rfl
  · rw [va_up_ne _ _ h0]
    by_cases h1 : o = 148
    · subst h1; rw [va_up_self]; rfl
    · rw [va_up_ne _ _ h1]
      unfold riC
      rw [if_neg h0, if_neg h0, if_neg h1, if_neg h1]
set_option maxHeartbeats 4000000 in
set_option maxRecDepth 100000 in
theorem c_X5_init {E : xE} {h : xHp} {z : Nat} (hs0 : xSz E (putB h z 1 (fun _ => some (.inr (5, dfX5)))) (z + 1)) : PMet E mX5_init [.ref z] (putB h z 1 (fun _ => some (.inr (5, dfX5)))) (fun v h' => v = none ∧ h' = RO E h z O00 ∧ xSz E h' (z + 157)) := by
  refine pm_of [some (.ref z), none] (by decide +kernel) (Nat.le_of_ble_eq_true rfl) rfl ?_
  refine px_aload_n dX5_init_0 rfl ?_
  refine px_objInit dX5_init_1 ml_X5_1 wm_objectInit wc_objectInit (Nat.le_of_ble_eq_true rfl) (Nat.le_of_ble_eq_true rfl) ?_
  refine px_heap (h2 := putB h z 1 (riC E z (some (.inr (5, dfX5))) none)) (putB_congr (fun o ho => match o, ho with | 0, _ => rfl)) ?_
  have hs1 : xSz E (putB h z 1 (riC E z (some (.inr (5, dfX5))) none)) (z + 1) := xSz_B hs0 rfl (fun o ho => match o, ho with | 0, _ => rfl)
  refine px_aload_n dX5_init_4 rfl ?_
  refine px_newP (fs := dfX4) xk_X4 dX5_init_5 cl_X5_7 in_X4 wi_RobbedOnce_Town hs1 dfX4_ok ⟨Nat.le_of_ble_eq_true rfl, Nat.le_of_ble_eq_true rfl⟩ (fun hsx => ?_)
  refine px_dup dX5_init_8 rfl ?_
  refine px_callI (M2 := mX4_init) (c_X4_init hsx) mw_X4_init wm_X4_init rfl rfl (Or.inr ⟨_, ml_X5_9⟩) dX5_init_9 (by decide) rfl rfl (Nat.le_of_ble_eq_true rfl) ⟨Nat.le_of_ble_eq_true rfl, Nat.le_of_ble_eq_true rfl⟩ (fun v h2 hq => ?_)
  obtain ⟨rfl, rfl, hsx⟩ := hq
  unfold TH at hsx
  rw [ri_1] at hsx
  refine px_heap ri_1 ?_
  refine px_pF0 xk_X5 0 dX5_init_12 fl_X5_10 rfl (by decide) (by decide) (by show 0 < 9; decide) rfl rfl rfl rfl rfl hsx (fun hsy => ?_)
  have hs8 : xSz E (putB h z 8 (riC E z (some (.inr (5, [.ref (z + 1), .null, .null, .null, .int (nI 0), .null, .null, .null, .null]))) none)) (z + 8) := xSz_B hsy rfl ri_u0
  clear hsx hsy
  refine px_heap (h2 := putB h z 8 (riC E z (some (.inr (5, [.ref (z + 1), .null, .null, .null, .int (nI 0), .null, .null, .null, .null]))) none)) (putB_congr ri_u0) ?_
  refine px_aload_n dX5_init_15 rfl ?_
  refine px_newP (fs := dfX1) xk_X1 dX5_init_16 cl_X5_16 in_X1 wi_RobbedOnce_Past hs8 dfX1_ok ⟨Nat.le_of_ble_eq_true rfl, Nat.le_of_ble_eq_true rfl⟩ (fun hsx => ?_)
  refine px_dup dX5_init_19 rfl ?_
  refine px_callI (M2 := mX1_init) (c_X1_init hsx) mw_X1_init wm_X1_init rfl rfl (Or.inr ⟨_, ml_X5_18⟩) dX5_init_20 (by decide) rfl rfl (Nat.le_of_ble_eq_true rfl) ⟨Nat.le_of_ble_eq_true rfl, Nat.le_of_ble_eq_true rfl⟩ (fun v h2 hq => ?_)
  obtain ⟨rfl, rfl, hsx⟩ := hq
  unfold PH at hsx
  rw [ri_8] at hsx
  refine px_heap ri_8 ?_
  refine px_pF0 xk_X5 1 dX5_init_23 fl_X5_19 rfl (by decide) (by decide) (by show 1 < 9; decide) rfl rfl rfl rfl rfl hsx (fun hsy => ?_)
  have hs66 : xSz E (putB h z 66 (riC E z (some (.inr (5, [.ref (z + 1), .ref (z + 8), .null, .null, .int (nI 0), .null, .null, .null, .null]))) none)) (z + 66) := xSz_B hsy rfl ri_u0
  clear hsx hsy
  refine px_heap (h2 := putB h z 66 (riC E z (some (.inr (5, [.ref (z + 1), .ref (z + 8), .null, .null, .int (nI 0), .null, .null, .null, .null]))) none)) (putB_congr ri_u0) ?_
  refine px_aload_n dX5_init_26 rfl ?_
  refine px_newP (fs := dfX4) xk_X4 dX5_init_27 cl_X5_7 in_X4 wi_RobbedOnce_Town hs66 dfX4_ok ⟨Nat.le_of_ble_eq_true rfl, Nat.le_of_ble_eq_true rfl⟩ (fun hsx => ?_)
  refine px_dup dX5_init_30 rfl ?_
  refine px_callI (M2 := mX4_init) (c_X4_init hsx) mw_X4_init wm_X4_init rfl rfl (Or.inr ⟨_, ml_X5_9⟩) dX5_init_31 (by decide) rfl rfl (Nat.le_of_ble_eq_true rfl) ⟨Nat.le_of_ble_eq_true rfl, Nat.le_of_ble_eq_true rfl⟩ (fun v h2 hq => ?_)
  obtain ⟨rfl, rfl, hsx⟩ := hq
  unfold TH at hsx
  rw [ri_66] at hsx
  refine px_heap ri_66 ?_
  refine px_pF0 xk_X5 2 dX5_init_34 fl_X5_23 rfl (by decide) (by decide) (by show 2 < 9; decide) rfl rfl rfl rfl rfl hsx (fun hsy => ?_)
  have hs73 : xSz E (putB h z 73 (riC E z (some (.inr (5, [.ref (z + 1), .ref (z + 8), .ref (z + 66), .null, .int (nI 0), .null, .null, .null, .null]))) none)) (z + 73) := xSz_B hsy rfl ri_u0
  clear hsx hsy
  refine px_heap (h2 := putB h z 73 (riC E z (some (.inr (5, [.ref (z + 1), .ref (z + 8), .ref (z + 66), .null, .int (nI 0), .null, .null, .null, .null]))) none)) (putB_congr ri_u0) ?_
  refine px_aload_n dX5_init_37 rfl ?_
  refine px_newP (fs := dfX1) xk_X1 dX5_init_38 cl_X5_16 in_X1 wi_RobbedOnce_Past hs73 dfX1_ok ⟨Nat.le_of_ble_eq_true rfl, Nat.le_of_ble_eq_true rfl⟩ (fun hsx => ?_)
  refine px_dup dX5_init_41 rfl ?_
  refine px_callI (M2 := mX1_init) (c_X1_init hsx) mw_X1_init wm_X1_init rfl rfl (Or.inr ⟨_, ml_X5_18⟩) dX5_init_42 (by decide) rfl rfl (Nat.le_of_ble_eq_true rfl) ⟨Nat.le_of_ble_eq_true rfl, Nat.le_of_ble_eq_true rfl⟩ (fun v h2 hq => ?_)
  obtain ⟨rfl, rfl, hsx⟩ := hq
  unfold PH at hsx
  rw [ri_73] at hsx
  refine px_heap ri_73 ?_
  refine px_pF0 xk_X5 3 dX5_init_45 fl_X5_26 rfl (by decide) (by decide) (by show 3 < 9; decide) rfl rfl rfl rfl rfl hsx (fun hsy => ?_)
  have hs131 : xSz E (putB h z 131 (riC E z (some (.inr (5, [.ref (z + 1), .ref (z + 8), .ref (z + 66), .ref (z + 73), .int (nI 0), .null, .null, .null, .null]))) none)) (z + 131) := xSz_B hsy rfl ri_u0
  clear hsx hsy
  refine px_heap (h2 := putB h z 131 (riC E z (some (.inr (5, [.ref (z + 1), .ref (z + 8), .ref (z + 66), .ref (z + 73), .int (nI 0), .null, .null, .null, .null]))) none)) (putB_congr ri_u0) ?_
  refine px_aload_n dX5_init_48 rfl ?_
  refine px_newP (fs := dfX0) xk_X0 dX5_init_49 cl_X5_29 in_X0 wi_RobbedOnce_Foretelling hs131 dfX0_ok ⟨Nat.le_of_ble_eq_true rfl, Nat.le_of_ble_eq_true rfl⟩ (fun hsx => ?_)
  refine px_dup dX5_init_52 rfl ?_
  refine px_callI (M2 := mX0_init) (c_X0_init hsx) mw_X0_init wm_X0_init rfl rfl (Or.inr ⟨_, ml_X5_31⟩) dX5_init_53 (by decide) rfl rfl (Nat.le_of_ble_eq_true rfl) ⟨Nat.le_of_ble_eq_true rfl, Nat.le_of_ble_eq_true rfl⟩ (fun v h2 hq => ?_)
  obtain ⟨rfl, rfl, hsx⟩ := hq
  rw [ri_131] at hsx
  refine px_heap ri_131 ?_
  refine px_pF0 xk_X5 5 dX5_init_56 fl_X5_32 rfl (by decide) (by decide) (by show 5 < 9; decide) rfl rfl rfl rfl rfl hsx (fun hsy => ?_)
  have hs139 : xSz E (putB h z 139 (riC E z (some (.inr (5, [.ref (z + 1), .ref (z + 8), .ref (z + 66), .ref (z + 73), .int (nI 0), .ref (z + 131), .null, .null, .null]))) none)) (z + 139) := xSz_B hsy rfl ri_u0
  clear hsx hsy
  refine px_heap (h2 := putB h z 139 (riC E z (some (.inr (5, [.ref (z + 1), .ref (z + 8), .ref (z + 66), .ref (z + 73), .int (nI 0), .ref (z + 131), .null, .null, .null]))) none)) (putB_congr ri_u0) ?_
  refine px_aload_n dX5_init_59 rfl ?_
  refine px_newP (fs := dfX3) xk_X3 dX5_init_60 cl_X5_36 in_X3 wi_RobbedOnce_Tape hs139 dfX3_ok ⟨Nat.le_of_ble_eq_true rfl, Nat.le_of_ble_eq_true rfl⟩ (fun hsx => ?_)
  refine px_dup dX5_init_63 rfl ?_
  refine px_callI (M2 := mX3_init) (c_X3_init hsx) mw_X3_init wm_X3_init rfl rfl (Or.inr ⟨_, ml_X5_38⟩) dX5_init_64 (by decide) rfl rfl (Nat.le_of_ble_eq_true rfl) ⟨Nat.le_of_ble_eq_true rfl, Nat.le_of_ble_eq_true rfl⟩ (fun v h2 hq => ?_)
  obtain ⟨rfl, rfl, hsx⟩ := hq
  unfold KH at hsx
  rw [ri_139] at hsx
  refine px_heap ri_139 ?_
  refine px_pF0 xk_X5 6 dX5_init_67 fl_X5_39 rfl (by decide) (by decide) (by show 6 < 9; decide) rfl rfl rfl rfl rfl hsx (fun hsy => ?_)
  have hs141 : xSz E (putB h z 141 (riC E z (some (.inr (5, [.ref (z + 1), .ref (z + 8), .ref (z + 66), .ref (z + 73), .int (nI 0), .ref (z + 131), .ref (z + 139), .null, .null]))) none)) (z + 141) := xSz_B hsy rfl ri_u0
  clear hsx hsy
  refine px_heap (h2 := putB h z 141 (riC E z (some (.inr (5, [.ref (z + 1), .ref (z + 8), .ref (z + 66), .ref (z + 73), .int (nI 0), .ref (z + 131), .ref (z + 139), .null, .null]))) none)) (putB_congr ri_u0) ?_
  refine px_aload_n dX5_init_70 rfl ?_
  refine px_newP (fs := dfX4) xk_X4 dX5_init_71 cl_X5_7 in_X4 wi_RobbedOnce_Town hs141 dfX4_ok ⟨Nat.le_of_ble_eq_true rfl, Nat.le_of_ble_eq_true rfl⟩ (fun hsx => ?_)
  refine px_dup dX5_init_74 rfl ?_
  refine px_callI (M2 := mX4_init) (c_X4_init hsx) mw_X4_init wm_X4_init rfl rfl (Or.inr ⟨_, ml_X5_9⟩) dX5_init_75 (by decide) rfl rfl (Nat.le_of_ble_eq_true rfl) ⟨Nat.le_of_ble_eq_true rfl, Nat.le_of_ble_eq_true rfl⟩ (fun v h2 hq => ?_)
  obtain ⟨rfl, rfl, hsx⟩ := hq
  unfold TH at hsx
  rw [ri_141] at hsx
  refine px_heap ri_141 ?_
  refine px_pF0 xk_X5 7 dX5_init_78 fl_X5_43 rfl (by decide) (by decide) (by show 7 < 9; decide) rfl rfl rfl rfl rfl hsx (fun hsy => ?_)
  have hs148 : xSz E (putB h z 148 (riC E z (some (.inr (5, [.ref (z + 1), .ref (z + 8), .ref (z + 66), .ref (z + 73), .int (nI 0), .ref (z + 131), .ref (z + 139), .ref (z + 141), .null]))) none)) (z + 148) := xSz_B hsy rfl ri_u0
  clear hsx hsy
  refine px_heap (h2 := putB h z 148 (riC E z (some (.inr (5, [.ref (z + 1), .ref (z + 8), .ref (z + 66), .ref (z + 73), .int (nI 0), .ref (z + 131), .ref (z + 139), .ref (z + 141), .null]))) none)) (putB_congr ri_u0) ?_
  refine px_aload_n dX5_init_81 rfl ?_
  refine px_iconst (v := nI 4) dX5_init_82 (by decide) ?_
  refine px_anew (t0 := 4) (f0 := shR z 0) dX5_init_83 cl_X5_46 (fun s H hx => hx.2.2.2.2) rfl (by decide) (fun q hq => if_pos ⟨Nat.zero_le _, hq⟩) hs148 ⟨Nat.le_of_ble_eq_true rfl, Nat.le_of_ble_eq_true rfl⟩ ?_
  have hsx := xSz_new (e := .inl (E.1.2 4, 4, .inr (.inr (.inr (.inr (shR z 0)))))) hs148
  rw [putB_push] at hsx
  refine px_heap putB_push ?_
  refine px_pF0 xk_X5 8 dX5_init_86 fl_X5_48 rfl (by decide) (by decide) (by show 8 < 9; decide) rfl rfl rfl rfl rfl hsx (fun hsy => ?_)
  refine px_iconst (v := nI 0) dX5_init_89 (by decide) ?_
  refine px_istn_1 dX5_init_90 (by decide) rfl ?_
  refine px_heap (h2 := putB h z (149 + 2 * 0) (riC E z (ob5 z) (shC4 E z 0))) (putB_congr ri_st) ?_
  exact l_X5_init 4 0 rfl (xSz_B hsy rfl ri_st)
