def thid (T : xT) (a hid : Nat) : Nat → xT
  | 0 => T
  | n + 1 => tpass (tshow (thid T a hid n) a (decide (hid ≤ n))) hm0
theorem thid_s {T : xT} {a hid : Nat} : ∀ n, (thid T a hid n).2 4 = T.2 4 + n
  | 0 => rfl
  | n + 1 => by
    rw [thid, (tpass_s).2.2.2.1, tshow]
    simp only [tSS]
    rw [if_neg (by decide), thid_s n]
    omega
theorem thid_ok {T : xT} {a hid : Nat} (h : tOK T) (ha : a < 6) : ∀ n, T.2 4 + n < 2 ^ 30 → tOK (thid T a hid n)
  | 0, _ => h
  | n + 1, hn => by
    refine tpass_ok (tshow_ok (thid_ok h ha n (by omega)) ha) ?_
    have e : (tshow (thid T a hid n) a (decide (hid ≤ n))).2 4 = (thid T a hid n).2 4 := by simp [tshow, tSS]
    rw [e, thid_s n]
    omega
def pHd (T : xT) (a hid : Nat) : Nat → Bool := fun n => ((thid T a hid n).2 3).testBit a
set_option maxHeartbeats 4000000 in
set_option maxRecDepth 100000 in
theorem l_X0_nightsIfHidden {E : xE} {h : xHp} {bF bn bt : Nat} {Tn : xT} (hf : xFo h bF bn bt) (hOK : tOK Tn) (a hid w : Nat) (ha : a < 6) (hh : hid ≤ 20) (hw : w ≤ 99) (hn : Tn.2 4 + 100 < 2 ^ 30) : ∀ (n i : Nat), i ≤ w → w + 1 ≤ i + n → PW E mX0_nightsIfHidden (fun v h1 => v = some (.int (oI (ffrom (pHd Tn a hid) (w - i) (i + 1)))) ∧ FK E h bn bt Tn h1) 0 0 11 [some (.ref bF), some (.ref bn), some (.int (nI a)), some (.int (nI hid)), some (.int (nI w)), some (.int (nI i))] [] (FH E h bn bt Tn (thid Tn a hid i)) := by
  intro n
  induction n with
  | zero =>
    intro i h1 h2
    omega
  | succ n ih =>
    intro i h1 h2
    have hs := thid_ok (hid := hid) hOK ha i (by omega)
    have tail : i < w → PW E mX0_nightsIfHidden (fun v h1 => v = some (.int (oI (ffrom (pHd Tn a hid) (w - i) (i + 1)))) ∧ FK E h bn bt Tn h1) 0 0 45 [some (.ref bF), some (.ref bn), some (.int (nI a)), some (.int (nI hid)), some (.int (nI w)), some (.int (nI i))] [] (FH E h bn bt Tn (thid Tn a hid (i + 1))) := by
      intro hiw
      have hs1 := thid_ok (hid := hid) hOK ha (i + 1) (by omega)
      refine px_aload_n dX0_nightsIfHidden_45 rfl ?_
      refine px_get xk_X0 0 dX0_nightsIfHidden_46 (Or.inl fl_X0_12) (fo_get hf) (by decide) rfl ?_
      refine px_tS 3 dX0_nightsIfHidden_49 (Or.inr ⟨_, fl_X0_30⟩) (by decide) ?_
      refine px_iload_n dX0_nightsIfHidden_52 rfl ?_
      refine px_si (c_X5_has_n _ a (by have := hs1.1.2.2.2.1; omega) (by omega)) mw_X5_has wt_X5_has (Or.inr ⟨_, ml_X0_34⟩) dX0_nightsIfHidden_53 (by decide) rfl rfl (Nat.le_of_ble_eq_true rfl) ⟨rfl, rfl⟩ ?_
      refine px_if_eqB 64 dX0_nightsIfHidden_56 (by decide) (fun c56 => ?_) (fun c56 => ?_)
      · refine px_inc_5 dX0_nightsIfHidden_64 rfl (nI_1 _) (by decide) rfl ?_
        refine px_goto 11 dX0_nightsIfHidden_67 (by decide) ?_
        rw [show w - i = (w - (i + 1)) + 1 by omega, ffrom_n (p := pHd Tn a hid) c56]
        exact ih (i + 1) (by omega) (by omega)
      · refine px_iload dX0_nightsIfHidden_59 rfl ?_
        refine px_iconst (v := nI 1) dX0_nightsIfHidden_61 (by decide) ?_
        refine px_iaddN dX0_nightsIfHidden_62 ?_
        exact px_iret dX0_nightsIfHidden_63 rfl rfl rfl ⟨by rw [show w - i = (w - (i + 1)) + 1 by omega, ffrom_y (p := pHd Tn a hid) c56]; rfl, _, hs1, rfl⟩
    refine px_iload dX0_nightsIfHidden_11 rfl ?_
    refine px_iload dX0_nightsIfHidden_13 rfl ?_
    refine px_icmp_geN 70 dX0_nightsIfHidden_15 (by decide) (by omega) (by omega) (fun c15 => ?_) (fun c15 => ?_)
    · refine px_bipush (v := -4) dX0_nightsIfHidden_70 (by decide) ?_
      have hz : w = i := by omega
      exact px_iret dX0_nightsIfHidden_72 rfl rfl rfl ⟨by rw [show w - i = 0 by omega]; rfl, _, hs, rfl⟩
    · refine px_aload_n dX0_nightsIfHidden_18 rfl ?_
      refine px_get xk_X0 0 dX0_nightsIfHidden_19 (Or.inl fl_X0_12) (fo_get hf) (by decide) rfl ?_
      refine px_iload_n dX0_nightsIfHidden_22 rfl ?_
      refine px_iload dX0_nightsIfHidden_23 rfl ?_
      refine px_iload_n dX0_nightsIfHidden_25 rfl ?_
      refine px_icmp_ltN 33 dX0_nightsIfHidden_26 (by decide) (by omega) (by omega) (fun c26 => ?_) (fun c26 => ?_)
      · refine px_iconst (v := nI 0) dX0_nightsIfHidden_33 (by decide) ?_
        refine px_vv (M2 := mX4_setShown) (c_X4_setShown a false ha) mw_X4_setShown wm_X4_setShown we_X4_setShown (Or.inr ⟨_, ml_X0_42⟩) dX0_nightsIfHidden_34 (TH_obj) rfl (by decide) rfl rfl (Nat.le_of_ble_eq_true rfl) ⟨rfl, rfl⟩ ?_
        refine px_aload_n dX0_nightsIfHidden_37 rfl ?_
        refine px_get xk_X0 0 dX0_nightsIfHidden_38 (Or.inl fl_X0_12) (fo_get hf) (by decide) rfl ?_
        refine px_iconst (v := nI 0) dX0_nightsIfHidden_41 (by decide) ?_
        refine px_vv (M2 := mX4_pass) (c_X4_pass (tshow_ok (thid_ok (hid := hid) hOK ha i (by omega)) ha) (nI 0) hm0 (fun i hi => hbit_0 i hi)) mw_X4_pass wm_X4_pass we_X4_pass (Or.inr ⟨_, ml_X0_26⟩) dX0_nightsIfHidden_42 (TH_obj) rfl (by decide) rfl rfl (Nat.le_of_ble_eq_true rfl) ⟨rfl, rfl⟩ ?_
        rw [show tpass (tshow (thid Tn a hid i) a false) hm0 = thid Tn a hid (i + 1) from by rw [thid, decide_eq_false (show ¬ hid ≤ i by omega)]]
        exact tail c15
      · refine px_iconst (v := nI 1) dX0_nightsIfHidden_29 (by decide) ?_
        refine px_goto 34 dX0_nightsIfHidden_30 (by decide) ?_
        refine px_vv (M2 := mX4_setShown) (c_X4_setShown a true ha) mw_X4_setShown wm_X4_setShown we_X4_setShown (Or.inr ⟨_, ml_X0_42⟩) dX0_nightsIfHidden_34 (TH_obj) rfl (by decide) rfl rfl (Nat.le_of_ble_eq_true rfl) ⟨rfl, rfl⟩ ?_
        refine px_aload_n dX0_nightsIfHidden_37 rfl ?_
        refine px_get xk_X0 0 dX0_nightsIfHidden_38 (Or.inl fl_X0_12) (fo_get hf) (by decide) rfl ?_
        refine px_iconst (v := nI 0) dX0_nightsIfHidden_41 (by decide) ?_
        refine px_vv (M2 := mX4_pass) (c_X4_pass (tshow_ok (thid_ok (hid := hid) hOK ha i (by omega)) ha) (nI 0) hm0 (fun i hi => hbit_0 i hi)) mw_X4_pass wm_X4_pass we_X4_pass (Or.inr ⟨_, ml_X0_26⟩) dX0_nightsIfHidden_42 (TH_obj) rfl (by decide) rfl rfl (Nat.le_of_ble_eq_true rfl) ⟨rfl, rfl⟩ ?_
        rw [show tpass (tshow (thid Tn a hid i) a true) hm0 = thid Tn a hid (i + 1) from by rw [thid, decide_eq_true (show hid ≤ i by omega)]]
        exact tail c15
set_option maxHeartbeats 4000000 in
set_option maxRecDepth 100000 in
theorem c_X0_nightsIfHidden {E : xE} {h : xHp} {bF bn bt : Nat} {Tn Tt : xT} (hf : xFo h bF bn bt) (hOK : tOK Tn) (a hid w : Nat) (ha : a < 6) (hh : hid ≤ 20) (hw : w ≤ 99) (hn : Tn.2 4 + 100 < 2 ^ 30) : PMF E mX0_nightsIfHidden [.ref bF, .ref bn, .int (nI a), .int (nI hid), .int (nI w)] (FH E h bn bt Tn Tt) (oI (ffrom (pHd Tn a hid) w 1)) h bn bt Tn := by
  refine pm_of [some (.ref bF), some (.ref bn), some (.int (nI a)), some (.int (nI hid)), some (.int (nI w)), none] (by decide +kernel) (Nat.le_of_ble_eq_true rfl) rfl ?_
  refine px_aload_n dX0_nightsIfHidden_0 rfl ?_
  refine px_get xk_X0 0 dX0_nightsIfHidden_1 (Or.inl fl_X0_12) (fo_get hf) (by decide) rfl ?_
  refine px_aload_n dX0_nightsIfHidden_4 rfl ?_
  refine px_vv (M2 := mX4_become) (c_X4_become hf.2.2.2) mw_X4_become wm_X4_become we_X4_become (Or.inr ⟨_, ml_X0_18⟩) dX0_nightsIfHidden_5 (TH_obj) rfl (by decide) rfl rfl (Nat.le_of_ble_eq_true rfl) ⟨rfl, rfl⟩ ?_
  refine px_iconst (v := nI 0) dX0_nightsIfHidden_8 (by decide) ?_
  refine px_ist_5 dX0_nightsIfHidden_9 (by decide) rfl ?_
  exact l_X0_nightsIfHidden hf hOK a hid w ha hh hw hn (w + 1) 0 (Nat.zero_le _) (by omega)
def tbst (T : xT) (a : Nat) : Nat → Option Nat × Nat
  | 0 => (none, 100)
  | k + 1 => match ffrom (pHd T a k) ((tbst T a k).2 - 1) 1 with
    | none => tbst T a k
    | some n => (some k, n)
theorem tbst_b {T : xT} {a : Nat} : ∀ k, 1 ≤ (tbst T a k).2 ∧ (tbst T a k).2 ≤ 100 ∧ ∀ j, (tbst T a k).1 = some j → j < k
  | 0 => ⟨by simp [tbst], by simp [tbst], fun j h => by simp [tbst] at h⟩
  | k + 1 => by
    obtain ⟨h1, h2, h3⟩ := tbst_b (T := T) (a := a) k
    rw [tbst]
    cases hf : ffrom (pHd T a k) ((tbst T a k).2 - 1) 1 with
    | none => exact ⟨h1, h2, fun j h => by have := h3 j h; omega⟩
    | some n =>
      have := ffrom_lt hf
      exact ⟨by show 1 ≤ n; omega, by show n ≤ 100; omega, fun j h => by cases h; omega⟩
def tbhS (q : Option Nat × Nat) (lg : Bool) : Int32 := match q.1 with
  | none => -4
  | some k => if lg then nI k else nI q.2
def tbh (T : xT) (a : Nat) (lg : Bool) : Int32 := tbhS (tbst T a 21) lg
theorem tbhS_none {q : Option Nat × Nat} {lg : Bool} (h : q.1 = none) : tbhS q lg = -4 := by unfold tbhS; rw [h]
theorem tbhS_some {q : Option Nat × Nat} {k : Nat} {lg : Bool} (h : q.1 = some k) : tbhS q lg = if lg then nI k else nI q.2 := by unfold tbhS; rw [h]
theorem tbh_none {T : xT} {a : Nat} {lg : Bool} (h : (tbst T a 21).1 = none) : tbh T a lg = -4 := tbhS_none h
theorem tbh_some {T : xT} {a k : Nat} {lg : Bool} (h : (tbst T a 21).1 = some k) : tbh T a lg = if lg then nI k else nI (tbst T a 21).2 := tbhS_some h
set_option maxHeartbeats 4000000 in
set_option maxRecDepth 100000 in
theorem l_X0_bestHiding {E : xE} {h : xHp} {bF bn bt : Nat} {Tn : xT} (hf : xFo h bF bn bt) (hOK : tOK Tn) (a : Nat) (lg : Bool) (ha : a < 6) (hn : Tn.2 4 + 100 < 2 ^ 30) : ∀ (n i : Nat) (Tt : xT), tOK Tt → i ≤ 21 → 22 ≤ i + n → PW E mX0_bestHiding (fun v h1 => v = some (.int (tbh Tn a lg)) ∧ FK E h bn bt Tn h1) 0 0 24 [some (.ref bF), some (.ref bn), some (.int (nI a)), some (.int (bI lg)), some (.int (oI (tbst Tn a i).1)), some (.int (nI (tbst Tn a i).2)), some (.int (nI i)), none] [] (FH E h bn bt Tn Tt) := by
  intro n
  induction n with
  | zero =>
    intro i Tt hT h1 h2
    omega
  | succ n ih =>
    intro i Tt hT h1 h2
    have hb := tbst_b (T := Tn) (a := a) i
    refine px_iload dX0_bestHiding_24 rfl ?_
    refine px_bipush (v := nI 20) dX0_bestHiding_26 (by decide) ?_
    refine px_icmp_gtN 64 dX0_bestHiding_28 (by decide) (by omega) (by omega) (fun c28 => ?_) (fun c28 => ?_)
    · have hi : i = 21 := by omega
      subst hi
      refine px_iload dX0_bestHiding_64 rfl ?_
      rcases hv : (tbst Tn a 21).1 with _ | nn
      · refine px_topi (show oI none = -4 from rfl) ?_
        refine px_if_lt 73 dX0_bestHiding_66 (by decide) (fun _ => ?_) (fun z => absurd z (by decide))
        refine px_iload dX0_bestHiding_73 rfl ?_
        refine px_goto 80 dX0_bestHiding_75 (by decide) ?_
        exact px_iret dX0_bestHiding_80 rfl rfl rfl ⟨(by rw [tbh_none hv]; try rfl), Tt, hT, rfl⟩
      · have hnn := hb.2.2 nn hv
        refine px_topi (show oI (some nn) = nI nn from rfl) ?_
        refine px_if_ltN 73 dX0_bestHiding_66 (by decide) (by omega) ?_
        refine px_iload_n dX0_bestHiding_69 rfl ?_
        refine px_if_eqB 78 dX0_bestHiding_70 (by decide) (fun c70 => ?_) (fun c70 => ?_)
        · refine px_iload dX0_bestHiding_78 rfl ?_
          exact px_iret dX0_bestHiding_80 rfl rfl rfl ⟨(by rw [tbh_some hv, if_neg (by simp [c70])]; try rfl), Tt, hT, rfl⟩
        · refine px_iload dX0_bestHiding_73 rfl ?_
          refine px_goto 80 dX0_bestHiding_75 (by decide) ?_
          exact px_iret dX0_bestHiding_80 rfl rfl rfl ⟨(by rw [tbh_some hv, if_pos c70]; try rfl), Tt, hT, rfl⟩
    · refine px_aload_n dX0_bestHiding_31 rfl ?_
      refine px_aload_n dX0_bestHiding_32 rfl ?_
      refine px_iload_n dX0_bestHiding_33 rfl ?_
      refine px_iload dX0_bestHiding_34 rfl ?_
      refine px_iload dX0_bestHiding_36 rfl ?_
      refine px_iconst (v := nI 1) dX0_bestHiding_38 (by decide) ?_
      refine px_isubN dX0_bestHiding_39 (by omega) ?_
      refine px_vf (M2 := mX0_nightsIfHidden) (c_X0_nightsIfHidden hf hOK a i ((tbst Tn a i).2 - 1) ha (by omega) (by omega) hn) mw_X0_nightsIfHidden wm_X0_nightsIfHidden we_X0_nightsIfHidden (Or.inl ml_X0_38) dX0_bestHiding_40 (fo_get hf) rfl (by decide) rfl rfl (Nat.le_of_ble_eq_true rfl) ⟨rfl, rfl⟩ (fun T1 hT1 => ?_)
      rcases hv : ffrom (pHd Tn a i) ((tbst Tn a i).2 - 1) 1 with _ | nn
      · refine px_topi (show oI none = -4 from rfl) ?_
        refine px_ist_7 dX0_bestHiding_43 (by decide) rfl ?_
        refine px_iload dX0_bestHiding_45 rfl ?_
        refine px_if_lt 58 dX0_bestHiding_47 (by decide) (fun _ => ?_) (fun z => absurd z (by decide))
        refine px_inc_6 dX0_bestHiding_58 rfl (nI_1 _) (by decide) rfl ?_
        refine px_goto 24 dX0_bestHiding_61 (by decide) ?_
        refine px_fg_7 ?_
        refine px_eq (lo2 := [some (.ref bF), some (.ref bn), some (.int (nI a)), some (.int (bI lg)), some (.int (oI (tbst Tn a (i + 1)).1)), some (.int (nI (tbst Tn a (i + 1)).2)), some (.int (nI (i + 1))), none]) ?_ rfl rfl (ih (i + 1) _ hT1 (by omega) (by omega))
        rw [tbst, hv]
        try rfl
      · have hnn := ffrom_lt hv
        refine px_topi (show oI (some nn) = nI nn from rfl) ?_
        refine px_ist_7 dX0_bestHiding_43 (by decide) rfl ?_
        refine px_iload dX0_bestHiding_45 rfl ?_
        refine px_if_ltN 58 dX0_bestHiding_47 (by decide) (by omega) ?_
        refine px_iload dX0_bestHiding_50 rfl ?_
        refine px_ist_4 dX0_bestHiding_52 (by decide) rfl ?_
        refine px_iload dX0_bestHiding_54 rfl ?_
        refine px_ist_5 dX0_bestHiding_56 (by decide) rfl ?_
        refine px_inc_6 dX0_bestHiding_58 rfl (nI_1 _) (by decide) rfl ?_
        refine px_goto 24 dX0_bestHiding_61 (by decide) ?_
        refine px_fg_7 ?_
        refine px_eq (lo2 := [some (.ref bF), some (.ref bn), some (.int (nI a)), some (.int (bI lg)), some (.int (oI (tbst Tn a (i + 1)).1)), some (.int (nI (tbst Tn a (i + 1)).2)), some (.int (nI (i + 1))), none]) ?_ rfl rfl (ih (i + 1) _ hT1 (by omega) (by omega))
        rw [tbst, hv]
        try rfl
set_option maxHeartbeats 4000000 in
set_option maxRecDepth 100000 in
theorem c_X0_bestHiding {E : xE} {h : xHp} {bF bn bt : Nat} {Tn Tt : xT} (hf : xFo h bF bn bt) (hOK : tOK Tn) (hT : tOK Tt) (a : Nat) (lg : Bool) (ha : a < 6) (hn : Tn.2 4 + 100 < 2 ^ 30) : PMF E mX0_bestHiding [.ref bF, .ref bn, .int (nI a), .int (bI lg)] (FH E h bn bt Tn Tt) (if (Tn.2 3).testBit a then nI 0 else tbh Tn a lg) h bn bt Tn := by
  refine pm_of [some (.ref bF), some (.ref bn), some (.int (nI a)), some (.int (bI lg)), none, none, none, none] (by decide +kernel) (Nat.le_of_ble_eq_true rfl) rfl ?_
  refine px_aload_n dX0_bestHiding_0 rfl ?_
  refine px_tS2 3 dX0_bestHiding_1 (Or.inr ⟨_, fl_X0_30⟩) hf.2.2.2 (by decide) ?_
  refine px_iload_n dX0_bestHiding_4 rfl ?_
  refine px_si (c_X5_has_n (Tn.2 3) a (by have := hOK.1.2.2.2.1; omega) (by omega)) mw_X5_has wt_X5_has (Or.inr ⟨_, ml_X0_34⟩) dX0_bestHiding_5 (by decide) rfl rfl (Nat.le_of_ble_eq_true rfl) ⟨rfl, rfl⟩ ?_
  refine px_if_eqB 13 dX0_bestHiding_8 (by decide) (fun c8 => ?_) (fun c8 => ?_)
  · refine px_bipush (v := -4) dX0_bestHiding_13 (by decide) ?_
    refine px_ist_4 dX0_bestHiding_15 (by decide) rfl ?_
    refine px_bipush (v := nI 100) dX0_bestHiding_17 (by decide) ?_
    refine px_ist_5 dX0_bestHiding_19 (by decide) rfl ?_
    refine px_iconst (v := nI 0) dX0_bestHiding_21 (by decide) ?_
    refine px_ist_6 dX0_bestHiding_22 (by decide) rfl ?_
    rw [if_neg (by simp [c8])]; exact l_X0_bestHiding hf hOK a lg ha hn 22 0 Tt hT (Nat.zero_le _) (by omega)
  · refine px_iconst (v := nI 0) dX0_bestHiding_11 (by decide) ?_
    exact px_iret dX0_bestHiding_12 rfl rfl rfl ⟨by rw [if_pos c8], Tt, hT, rfl⟩
