/-! ===== Foretelling ===== -/
abbrev FH (E : xE) (h : xHp) (bn bt : Nat) (Tn Tt : xT) : xHp := TH E (TH E h bn Tn) bt Tt
def xFo (h : xHp) (bF bn bt : Nat) : Prop := h bF = some (.inr (0, [.ref bt])) ∧ (bF < bn ∨ bn + 7 ≤ bF) ∧ (bF < bt ∨ bt + 7 ≤ bF) ∧ (bt + 7 ≤ bn ∨ bn + 7 ≤ bt)
theorem fo_get {E : xE} {h : xHp} {bF bn bt : Nat} {Tn Tt : xT} (hf : xFo h bF bn bt) : FH E h bn bt Tn Tt bF = some (.inr (0, [.ref bt])) := by
  obtain ⟨h1, h2, h3, -⟩ := hf
  unfold FH TH
  rw [putB_out h3, putB_out h2]
  exact h1
def hm0 : Nat → Bool := fun _ => false
def tnights (T : xT) (hm : Nat → Bool) : Nat → xT
  | 0 => T
  | n + 1 => tpass (tnights T hm n) hm
theorem tnights_s {T : xT} {hm : Nat → Bool} : ∀ n, (tnights T hm n).2 0 = T.2 0 ∧ (tnights T hm n).2 1 = T.2 1 ∧ (tnights T hm n).2 4 = T.2 4 + n
  | 0 => ⟨rfl, rfl, rfl⟩
  | n + 1 => by
    have h1 := tpass_s (T := tnights T hm n) (hm := hm)
    have h2 := tnights_s (T := T) (hm := hm) n
    rw [tnights]
    exact ⟨h1.1.trans h2.1, h1.2.1.trans h2.2.1, by rw [h1.2.2.2.1, h2.2.2]; omega⟩
theorem tnights_ok {T : xT} {hm : Nat → Bool} (h : tOK T) : ∀ n, T.2 4 + n < 2 ^ 30 → tOK (tnights T hm n)
  | 0, _ => h
  | n + 1, hn => tpass_ok (tnights_ok h n (by omega)) (by rw [(tnights_s n).2.2]; omega)
def ffrom (p : Nat → Bool) : Nat → Nat → Option Nat
  | 0, _ => none
  | f + 1, i => if p i then some i else ffrom p f (i + 1)
def fdown (p : Nat → Bool) : Nat → Option Nat
  | 0 => none
  | k + 1 => if p k then some k else fdown p k
theorem ffrom_y {p : Nat → Bool} {f i : Nat} (h : p i = true) : ffrom p (f + 1) i = some i := by rw [ffrom, if_pos h]
theorem ffrom_n {p : Nat → Bool} {f i : Nat} (h : p i = false) : ffrom p (f + 1) i = ffrom p f (i + 1) := by rw [ffrom, if_neg (by simp [h])]
theorem fdown_y {p : Nat → Bool} {k : Nat} (h : p k = true) : fdown p (k + 1) = some k := by rw [fdown, if_pos h]
theorem fdown_n {p : Nat → Bool} {k : Nat} (h : p k = false) : fdown p (k + 1) = fdown p k := by rw [fdown, if_neg (by simp [h])]
theorem ffrom_lt {p : Nat → Bool} : ∀ {f i a : Nat}, ffrom p f i = some a → i ≤ a ∧ a < i + f ∧ p a = true
  | 0, _, _, h => by cases h
  | f + 1, i, a, h => by
    cases hp : p i
    · rw [ffrom_n hp] at h
      have := ffrom_lt h
      exact ⟨by omega, by omega, this.2.2⟩
    · rw [ffrom_y hp] at h
      cases h
      exact ⟨by omega, by omega, hp⟩
def FK (E : xE) (h : xHp) (bn bt : Nat) (Tn : xT) : xHp → Prop := fun h' => ∃ T' : xT, tOK T' ∧ h' = FH E h bn bt Tn T'
abbrev PMF (E : xE) (M : xM) (av : List Value) (h0 : xHp) (x : Int32) (h : xHp) (bn bt : Nat) (Tn : xT) : Prop := PMet E M av h0 (fun v h' => v = some (.int x) ∧ FK E h bn bt Tn h')
section PXFO
variable {E : xE} {M M2 : xM} {Q : Option Value → xHp → Prop} {pc idx np b ci N bn bt : Nat} {lo : List (Option Value)} {r As fs st : List Value} {h h0 : xHp} {T : u_T} {Tn : xT}
theorem px_vf {x : Int32} (hm : PMF E M2 (.ref b :: As) h0 x h bn bt Tn) (hw : xMW M2 np) (hi : Cond.instanceMethod (xY M2) ∈ GW) (hse : Cond.selects (xY M2).cls (xY M2) (xY M2) ∈ GW) (hl : xML (xY M).cls idx (xY M2)) (hd : decode (xC M) pc = .ok (.invokevirtual idx, 3)) (hb : h0 b = some (.inr (ci, fs))) (hc : vwCl[ci]? = some ((xY M2).cls, T, N)) (hR : xd M2 + 1 ≤ xd M ∧ 8 + (xL M2 + 11) + 39 * xd M2 ≤ 39 * xd M) (hn : As.length = np) (hst : st = As.reverse ++ .ref b :: r) (hcat : (r.map fun v => v.category).sum ≤ 8) (hz : xmc M2 = 0 ∧ xms M2 = 0)
    (kk : ∀ T' : xT, tOK T' → PW E M Q 0 0 (pc + 3) lo (.int x :: r) (FH E h bn bt Tn T')) : PW E M Q 0 0 pc lo st h0 := by
  refine px_callV hm hw hi hse hl hd hb hc hR hn hst hcat ⟨by rw [hz.1]; exact Nat.zero_le _, by rw [hz.2]; exact Nat.zero_le _⟩ (fun v h' hq => ?_)
  obtain ⟨rfl, T', hT, rfl⟩ := hq
  rw [hz.1, hz.2]
  exact kk T' hT
end PXFO
set_option maxHeartbeats 4000000 in
set_option maxRecDepth 100000 in
theorem l_X0_passNights {E : xE} {h : xHp} {bF bn bt : Nat} {Tn Tt : xT} (hf : xFo h bF bn bt) (hOK : tOK Tt) (k : Nat) (hk : k ≤ 99) (hn : Tt.2 4 + k < 2 ^ 30) (x : Int32) (hm : Nat → Bool) (hx : ∀ i, i < 4 → hbit x i = hm i) : ∀ (n i : Nat), i ≤ k → k + 1 ≤ i + n → PW E mX0_passNights (fun v h1 => v = none ∧ h1 = FH E h bn bt Tn (tnights Tt hm k)) 0 0 2 [some (.ref bF), some (.int (nI k)), some (.int x), some (.int (nI i))] [] (FH E h bn bt Tn (tnights Tt hm i)) := by
  intro n
  induction n with
  | zero =>
    intro i h1 h2
    omega
  | succ n ih =>
    intro i h1 h2
    refine px_iload_n dX0_passNights_2 rfl ?_
    refine px_iload_n dX0_passNights_3 rfl ?_
    refine px_icmp_geN 21 dX0_passNights_4 (by decide) (by omega) (by omega) (fun c4 => ?_) (fun c4 => ?_)
    · have hi : i = k := by omega
      subst hi
      exact px_vret dX0_passNights_21 rfl rfl rfl ⟨rfl, rfl⟩
    · refine px_aload_n dX0_passNights_7 rfl ?_
      refine px_get xk_X0 0 dX0_passNights_8 (Or.inl fl_X0_12) (fo_get hf) (by decide) rfl ?_
      refine px_iload_n dX0_passNights_11 rfl ?_
      refine px_vv (M2 := mX4_pass) (c_X4_pass (tnights_ok hOK i (by omega)) x hm hx) mw_X4_pass wm_X4_pass we_X4_pass (Or.inr ⟨_, ml_X0_26⟩) dX0_passNights_12 (TH_obj) rfl (by decide) rfl rfl (Nat.le_of_ble_eq_true rfl) ⟨rfl, rfl⟩ ?_
      refine px_inc_3 dX0_passNights_15 rfl (nI_1 _) (by decide) rfl ?_
      refine px_goto 2 dX0_passNights_18 (by decide) ?_
      exact ih (i + 1) (by omega) (by omega)
set_option maxHeartbeats 4000000 in
set_option maxRecDepth 100000 in
theorem c_X0_passNights {E : xE} {h : xHp} {bF bn bt : Nat} {Tn Tt : xT} (hf : xFo h bF bn bt) (hOK : tOK Tt) (k : Nat) (hk : k ≤ 99) (hn : Tt.2 4 + k < 2 ^ 30) (x : Int32) (hm : Nat → Bool) (hx : ∀ i, i < 4 → hbit x i = hm i) : PMV E mX0_passNights [.ref bF, .int (nI k), .int x] (FH E h bn bt Tn Tt) (FH E h bn bt Tn (tnights Tt hm k)) := by
  refine pm_of [some (.ref bF), some (.int (nI k)), some (.int x), none] (by decide +kernel) (Nat.le_of_ble_eq_true rfl) rfl ?_
  refine px_iconst (v := nI 0) dX0_passNights_0 (by decide) ?_
  refine px_istn_3 dX0_passNights_1 (by decide) rfl ?_
  exact l_X0_passNights hf hOK k hk hn x hm hx (k + 1) 0 (Nat.zero_le _) (by omega)
set_option maxHeartbeats 4000000 in
set_option maxRecDepth 100000 in
theorem c_X0_after {E : xE} {h : xHp} {bF bn bt : Nat} {Tn Tt : xT} (hf : xFo h bF bn bt) (hOK : tOK Tn) (k : Nat) (hk : k ≤ 99) (hn : Tn.2 4 + k < 2 ^ 30) : PMR E mX0_after [.ref bF, .ref bn, .int (nI k)] (FH E h bn bt Tn Tt) bt (FH E h bn bt Tn (tnights Tn hm0 k)) := by
  refine pm_of [some (.ref bF), some (.ref bn), some (.int (nI k))] (by decide +kernel) (Nat.le_of_ble_eq_true rfl) rfl ?_
  refine px_aload_n dX0_after_0 rfl ?_
  refine px_get xk_X0 0 dX0_after_1 (Or.inl fl_X0_12) (fo_get hf) (by decide) rfl ?_
  refine px_aload_n dX0_after_4 rfl ?_
  refine px_vv (M2 := mX4_become) (c_X4_become hf.2.2.2) mw_X4_become wm_X4_become we_X4_become (Or.inr ⟨_, ml_X0_18⟩) dX0_after_5 (TH_obj) rfl (by decide) rfl rfl (Nat.le_of_ble_eq_true rfl) ⟨rfl, rfl⟩ ?_
  refine px_aload_n dX0_after_8 rfl ?_
  refine px_iload_n dX0_after_9 rfl ?_
  refine px_iconst (v := nI 0) dX0_after_10 (by decide) ?_
  refine px_vv (M2 := mX0_passNights) (c_X0_passNights hf hOK k (by omega) (by omega) (nI 0) hm0 (fun i hi => hbit_0 i hi)) mw_X0_passNights wm_X0_passNights we_X0_passNights (Or.inl ml_X0_22) dX0_after_11 (fo_get hf) rfl (by decide) rfl rfl (Nat.le_of_ble_eq_true rfl) ⟨rfl, rfl⟩ ?_
  refine px_aload_n dX0_after_14 rfl ?_
  refine px_get xk_X0 0 dX0_after_15 (Or.inl fl_X0_12) (fo_get hf) (by decide) rfl ?_
  exact px_aret dX0_after_18 rfl rfl rfl ⟨rfl, rfl⟩
def twout (T : xT) (k t : Nat) : Nat := bc ((tnights T (fun i => decide (i = t)) k).2 3)
set_option maxHeartbeats 4000000 in
set_option maxRecDepth 100000 in
theorem c_X0_swornWithout {E : xE} {h : xHp} {bF bn bt : Nat} {Tn Tt : xT} (hf : xFo h bF bn bt) (hOK : tOK Tn) (t k : Nat) (ht : t < 4) (hk : k ≤ 99) (hn : Tn.2 4 + k < 2 ^ 30) : PMF E mX0_swornWithout [.ref bF, .ref bn, .int (nI t), .int (nI k)] (FH E h bn bt Tn Tt) (nI (twout Tn k t)) h bn bt Tn := by
  refine pm_of [some (.ref bF), some (.ref bn), some (.int (nI t)), some (.int (nI k))] (by decide +kernel) (Nat.le_of_ble_eq_true rfl) rfl ?_
  refine px_aload_n dX0_swornWithout_0 rfl ?_
  refine px_get xk_X0 0 dX0_swornWithout_1 (Or.inl fl_X0_12) (fo_get hf) (by decide) rfl ?_
  refine px_aload_n dX0_swornWithout_4 rfl ?_
  refine px_vv (M2 := mX4_become) (c_X4_become hf.2.2.2) mw_X4_become wm_X4_become we_X4_become (Or.inr ⟨_, ml_X0_18⟩) dX0_swornWithout_5 (TH_obj) rfl (by decide) rfl rfl (Nat.le_of_ble_eq_true rfl) ⟨rfl, rfl⟩ ?_
  refine px_aload_n dX0_swornWithout_8 rfl ?_
  refine px_iload_n dX0_swornWithout_9 rfl ?_
  refine px_iconst (v := nI 1) dX0_swornWithout_10 (by decide) ?_
  refine px_iload_n dX0_swornWithout_11 rfl ?_
  refine px_ishl1 dX0_swornWithout_12 (by omega) ?_
  refine px_vv (M2 := mX0_passNights) (c_X0_passNights hf hOK k (by omega) (by omega) (nI (2 ^ t)) (fun i => decide (i = t)) (hbit_1 ht)) mw_X0_passNights wm_X0_passNights we_X0_passNights (Or.inl ml_X0_22) dX0_swornWithout_13 (fo_get hf) rfl (by decide) rfl rfl (Nat.le_of_ble_eq_true rfl) ⟨rfl, rfl⟩ ?_
  refine px_aload_n dX0_swornWithout_16 rfl ?_
  refine px_get xk_X0 0 dX0_swornWithout_17 (Or.inl fl_X0_12) (fo_get hf) (by decide) rfl ?_
  have hs := tnights_ok (hm := fun i => decide (i = t)) hOK k (by omega)
  refine px_tS 3 dX0_swornWithout_20 (Or.inr ⟨_, fl_X0_30⟩) (by decide) ?_
  refine px_si (c_J6_bitCount_0f7a4 _ hs.1.2.2.2.1) mw_J6_bitCount_0f7a4 wt_J6_bitCount_0f7a4 (Or.inl ml_X0_49) dX0_swornWithout_23 (by decide) rfl rfl (Nat.le_of_ble_eq_true rfl) ⟨rfl, rfl⟩ ?_
  exact px_iret dX0_swornWithout_26 rfl rfl rfl ⟨rfl, _, hs, rfl⟩
def pSw (T : xT) (a : Nat) : Nat → Bool := fun n => ((tnights T hm0 n).2 3).testBit a
set_option maxHeartbeats 4000000 in
set_option maxRecDepth 100000 in
theorem l_X0_nightsUntilSworn {E : xE} {h : xHp} {bF bn bt : Nat} {Tn : xT} (hf : xFo h bF bn bt) (hOK : tOK Tn) (a : Nat) (ha : a < 6) (hn : Tn.2 4 + 100 < 2 ^ 30) : ∀ (n i : Nat), i + n = 99 → PW E mX0_nightsUntilSworn (fun v h1 => v = some (.int (oI (ffrom (pSw Tn a) (n + 1) i))) ∧ FK E h bn bt Tn h1) 0 0 10 [some (.ref bF), some (.ref bn), some (.int (nI a)), some (.int (nI i))] [] (FH E h bn bt Tn (tnights Tn hm0 i)) := by
  intro n
  induction n with
  | zero =>
    intro i h1
    have hs := tnights_ok (hm := hm0) hOK i (by omega)
    refine px_iload_n dX0_nightsUntilSworn_10 rfl ?_
    refine px_bipush (v := nI 99) dX0_nightsUntilSworn_11 (by decide) ?_
    refine px_icmp_geN 46 dX0_nightsUntilSworn_13 (by decide) (by omega) (by omega) (fun c13 => ?_) (fun c13 => ?_)
    · refine px_aload_n dX0_nightsUntilSworn_46 rfl ?_
      refine px_get xk_X0 0 dX0_nightsUntilSworn_47 (Or.inl fl_X0_12) (fo_get hf) (by decide) rfl ?_
      refine px_tS 3 dX0_nightsUntilSworn_50 (Or.inr ⟨_, fl_X0_30⟩) (by decide) ?_
      refine px_iload_n dX0_nightsUntilSworn_53 rfl ?_
      refine px_si (c_X5_has_n _ a (by have := hs.1.2.2.2.1; omega) (by omega)) mw_X5_has wt_X5_has (Or.inr ⟨_, ml_X0_34⟩) dX0_nightsUntilSworn_54 (by decide) rfl rfl (Nat.le_of_ble_eq_true rfl) ⟨rfl, rfl⟩ ?_
      refine px_if_eqB 65 dX0_nightsUntilSworn_57 (by decide) (fun c57 => ?_) (fun c57 => ?_)
      · refine px_bipush (v := -4) dX0_nightsUntilSworn_65 (by decide) ?_
        have hi : i = 99 := by omega
        subst hi
        exact px_iret dX0_nightsUntilSworn_67 rfl rfl rfl ⟨by rw [ffrom_n (p := pSw Tn a) c57]; rfl, _, hs, rfl⟩
      · refine px_bipush (v := nI 99) dX0_nightsUntilSworn_60 (by decide) ?_
        refine px_goto 67 dX0_nightsUntilSworn_62 (by decide) ?_
        have hi : i = 99 := by omega
        subst hi
        exact px_iret dX0_nightsUntilSworn_67 rfl rfl rfl ⟨by rw [ffrom_y (p := pSw Tn a) c57]; rfl, _, hs, rfl⟩
    · omega
  | succ n ih =>
    intro i h1
    have hs := tnights_ok (hm := hm0) hOK i (by omega)
    refine px_iload_n dX0_nightsUntilSworn_10 rfl ?_
    refine px_bipush (v := nI 99) dX0_nightsUntilSworn_11 (by decide) ?_
    refine px_icmp_geN 46 dX0_nightsUntilSworn_13 (by decide) (by omega) (by omega) (fun c13 => ?_) (fun c13 => ?_)
    · omega
    · refine px_aload_n dX0_nightsUntilSworn_16 rfl ?_
      refine px_get xk_X0 0 dX0_nightsUntilSworn_17 (Or.inl fl_X0_12) (fo_get hf) (by decide) rfl ?_
      refine px_tS 3 dX0_nightsUntilSworn_20 (Or.inr ⟨_, fl_X0_30⟩) (by decide) ?_
      refine px_iload_n dX0_nightsUntilSworn_23 rfl ?_
      refine px_si (c_X5_has_n _ a (by have := hs.1.2.2.2.1; omega) (by omega)) mw_X5_has wt_X5_has (Or.inr ⟨_, ml_X0_34⟩) dX0_nightsUntilSworn_24 (by decide) rfl rfl (Nat.le_of_ble_eq_true rfl) ⟨rfl, rfl⟩ ?_
      refine px_if_eqB 32 dX0_nightsUntilSworn_27 (by decide) (fun c27 => ?_) (fun c27 => ?_)
      · refine px_aload_n dX0_nightsUntilSworn_32 rfl ?_
        refine px_get xk_X0 0 dX0_nightsUntilSworn_33 (Or.inl fl_X0_12) (fo_get hf) (by decide) rfl ?_
        refine px_iconst (v := nI 0) dX0_nightsUntilSworn_36 (by decide) ?_
        refine px_vv (M2 := mX4_pass) (c_X4_pass hs (nI 0) hm0 (fun i hi => hbit_0 i hi)) mw_X4_pass wm_X4_pass we_X4_pass (Or.inr ⟨_, ml_X0_26⟩) dX0_nightsUntilSworn_37 (TH_obj) rfl (by decide) rfl rfl (Nat.le_of_ble_eq_true rfl) ⟨rfl, rfl⟩ ?_
        refine px_inc_3 dX0_nightsUntilSworn_40 rfl (nI_1 _) (by decide) rfl ?_
        refine px_goto 10 dX0_nightsUntilSworn_43 (by decide) ?_
        rw [ffrom_n (p := pSw Tn a) c27]
        exact ih (i + 1) (by omega)
      · refine px_iload_n dX0_nightsUntilSworn_30 rfl ?_
        exact px_iret dX0_nightsUntilSworn_31 rfl rfl rfl ⟨by rw [ffrom_y (p := pSw Tn a) c27]; rfl, _, hs, rfl⟩
set_option maxHeartbeats 4000000 in
set_option maxRecDepth 100000 in
theorem c_X0_nightsUntilSworn {E : xE} {h : xHp} {bF bn bt : Nat} {Tn Tt : xT} (hf : xFo h bF bn bt) (hOK : tOK Tn) (a : Nat) (ha : a < 6) (hn : Tn.2 4 + 100 < 2 ^ 30) : PMF E mX0_nightsUntilSworn [.ref bF, .ref bn, .int (nI a)] (FH E h bn bt Tn Tt) (oI (ffrom (pSw Tn a) 100 0)) h bn bt Tn := by
  refine pm_of [some (.ref bF), some (.ref bn), some (.int (nI a)), none] (by decide +kernel) (Nat.le_of_ble_eq_true rfl) rfl ?_
  refine px_aload_n dX0_nightsUntilSworn_0 rfl ?_
  refine px_get xk_X0 0 dX0_nightsUntilSworn_1 (Or.inl fl_X0_12) (fo_get hf) (by decide) rfl ?_
  refine px_aload_n dX0_nightsUntilSworn_4 rfl ?_
  refine px_vv (M2 := mX4_become) (c_X4_become hf.2.2.2) mw_X4_become wm_X4_become we_X4_become (Or.inr ⟨_, ml_X0_18⟩) dX0_nightsUntilSworn_5 (TH_obj) rfl (by decide) rfl rfl (Nat.le_of_ble_eq_true rfl) ⟨rfl, rfl⟩ ?_
  refine px_iconst (v := nI 0) dX0_nightsUntilSworn_8 (by decide) ?_
  refine px_istn_3 dX0_nightsUntilSworn_9 (by decide) rfl ?_
  exact l_X0_nightsUntilSworn hf hOK a ha hn 99 0 rfl
