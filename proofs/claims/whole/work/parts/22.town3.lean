set_option maxHeartbeats 4000000 in
set_option maxRecDepth 100000 in
theorem l_X4_whomMayRob {E : xE} {h : xHp} {b : Nat} {T : xT} (hOK : tOK T) (t : Nat) (ht : t < 4) : ∀ (n i : Nat), i ≤ T.2 0 → T.2 0 + 1 ≤ i + n → PW E mX4_whomMayRob (fun v h1 => v = some (.int (nI (twhom T t (T.2 0)))) ∧ h1 = TH E h b T) 0 0 4 [some (.ref b), some (.int (nI t)), some (.int (nI (twhom T t i))), some (.int (nI i))] [] (TH E h b T) := by
  have hm4 := hOK.1.2.1
  have hm6 := hOK.1.1
  intro n
  induction n with
  | zero =>
    intro i h1 h2
    omega
  | succ n ih =>
    intro i h1 h2
    refine px_iload_n dX4_whomMayRob_4 rfl ?_
    refine px_aload_n dX4_whomMayRob_5 rfl ?_
    refine px_tS 0 dX4_whomMayRob_6 (Or.inl fl_X4_43) (by decide) ?_
    refine px_icmp_geN 33 dX4_whomMayRob_9 (by decide) (by first | omega | exact hOK.lt (by decide) | exact hOK.lts (by decide)) (by first | omega | exact hOK.lt (by decide) | exact hOK.lts (by decide)) (fun c9 => ?_) (fun c9 => ?_)
    · refine px_iload_n dX4_whomMayRob_33 rfl ?_
      have hi : i = T.2 0 := by omega
      subst hi
      exact px_iret dX4_whomMayRob_34 rfl rfl rfl ⟨rfl, rfl⟩
    · refine px_aload_n dX4_whomMayRob_12 rfl ?_
      refine px_iload_n dX4_whomMayRob_13 rfl ?_
      refine px_iload_n dX4_whomMayRob_14 rfl ?_
      refine px_vi (M2 := mX4_mayRob) (c_X4_mayRob hOK t i ht (by omega)) mw_X4_mayRob wm_X4_mayRob we_X4_mayRob (Or.inl ml_X4_66) dX4_whomMayRob_15 (TH_obj) rfl (by decide) rfl rfl (Nat.le_of_ble_eq_true rfl) ⟨rfl, rfl⟩ ?_
      refine px_if_eqB 27 dX4_whomMayRob_18 (by decide) (fun c18 => ?_) (fun c18 => ?_)
      · refine px_inc_3 dX4_whomMayRob_27 rfl (nI_1 _) (by decide) rfl ?_
        refine px_goto 4 dX4_whomMayRob_30 (by decide) ?_
        refine px_eq (lo2 := [some (.ref b), some (.int (nI t)), some (.int (nI (twhom T t (i + 1)))), some (.int (nI (i + 1)))]) ?_ rfl rfl (ih (i + 1) (by omega) (by omega))
        first | (rw [twhom, if_pos c18]; done) | (rw [twhom, if_neg (by simp [c18])]; done)
      · refine px_iload_n dX4_whomMayRob_21 rfl ?_
        refine px_iconst (v := nI 1) dX4_whomMayRob_22 (by decide) ?_
        refine px_iload_n dX4_whomMayRob_23 rfl ?_
        refine px_ishl1 dX4_whomMayRob_24 (by omega) ?_
        refine px_iorN dX4_whomMayRob_25 ?_
        refine px_istn_2 dX4_whomMayRob_26 (by decide) rfl ?_
        refine px_inc_3 dX4_whomMayRob_27 rfl (nI_1 _) (by decide) rfl ?_
        refine px_goto 4 dX4_whomMayRob_30 (by decide) ?_
        refine px_eq (lo2 := [some (.ref b), some (.int (nI t)), some (.int (nI (twhom T t (i + 1)))), some (.int (nI (i + 1)))]) ?_ rfl rfl (ih (i + 1) (by omega) (by omega))
        first | (rw [twhom, if_pos c18]; done) | (rw [twhom, if_neg (by simp [c18])]; done)
set_option maxHeartbeats 4000000 in
set_option maxRecDepth 100000 in
theorem c_X4_whomMayRob {E : xE} {h : xHp} {b : Nat} {T : xT} (hOK : tOK T) (t : Nat) (ht : t < 4) : PMI E mX4_whomMayRob [.ref b, .int (nI t)] (TH E h b T) (nI (twhom T t (T.2 0))) (TH E h b T) := by
  refine pm_of [some (.ref b), some (.int (nI t)), none, none] (by decide +kernel) (Nat.le_of_ble_eq_true rfl) rfl ?_
  refine px_iconst (v := nI 0) dX4_whomMayRob_0 (by decide) ?_
  refine px_istn_2 dX4_whomMayRob_1 (by decide) rfl ?_
  refine px_iconst (v := nI 0) dX4_whomMayRob_2 (by decide) ?_
  refine px_istn_3 dX4_whomMayRob_3 (by decide) rfl ?_
  exact l_X4_whomMayRob hOK t ht (T.2 0 + 1) 0 (Nat.zero_le _) (by omega)
set_option maxHeartbeats 4000000 in
set_option maxRecDepth 100000 in
theorem l_X4_thievesWhoMayRob {E : xE} {h : xHp} {b : Nat} {T : xT} (hOK : tOK T) (a : Nat) (ha : a < 6) : ∀ (n i : Nat), i ≤ T.2 1 → T.2 1 + 1 ≤ i + n → PW E mX4_thievesWhoMayRob (fun v h1 => v = some (.int (nI (twho T a (T.2 1)))) ∧ h1 = TH E h b T) 0 0 4 [some (.ref b), some (.int (nI a)), some (.int (nI (twho T a i))), some (.int (nI i))] [] (TH E h b T) := by
  have hm4 := hOK.1.2.1
  have hm6 := hOK.1.1
  intro n
  induction n with
  | zero =>
    intro i h1 h2
    omega
  | succ n ih =>
    intro i h1 h2
    refine px_iload_n dX4_thievesWhoMayRob_4 rfl ?_
    refine px_aload_n dX4_thievesWhoMayRob_5 rfl ?_
    refine px_tS 1 dX4_thievesWhoMayRob_6 (Or.inl fl_X4_46) (by decide) ?_
    refine px_icmp_geN 33 dX4_thievesWhoMayRob_9 (by decide) (by first | omega | exact hOK.lt (by decide) | exact hOK.lts (by decide)) (by first | omega | exact hOK.lt (by decide) | exact hOK.lts (by decide)) (fun c9 => ?_) (fun c9 => ?_)
    · refine px_iload_n dX4_thievesWhoMayRob_33 rfl ?_
      have hi : i = T.2 1 := by omega
      subst hi
      exact px_iret dX4_thievesWhoMayRob_34 rfl rfl rfl ⟨rfl, rfl⟩
    · refine px_aload_n dX4_thievesWhoMayRob_12 rfl ?_
      refine px_iload_n dX4_thievesWhoMayRob_13 rfl ?_
      refine px_iload_n dX4_thievesWhoMayRob_14 rfl ?_
      refine px_vi (M2 := mX4_mayRob) (c_X4_mayRob hOK i a (by omega) ha) mw_X4_mayRob wm_X4_mayRob we_X4_mayRob (Or.inl ml_X4_66) dX4_thievesWhoMayRob_15 (TH_obj) rfl (by decide) rfl rfl (Nat.le_of_ble_eq_true rfl) ⟨rfl, rfl⟩ ?_
      refine px_if_eqB 27 dX4_thievesWhoMayRob_18 (by decide) (fun c18 => ?_) (fun c18 => ?_)
      · refine px_inc_3 dX4_thievesWhoMayRob_27 rfl (nI_1 _) (by decide) rfl ?_
        refine px_goto 4 dX4_thievesWhoMayRob_30 (by decide) ?_
        refine px_eq (lo2 := [some (.ref b), some (.int (nI a)), some (.int (nI (twho T a (i + 1)))), some (.int (nI (i + 1)))]) ?_ rfl rfl (ih (i + 1) (by omega) (by omega))
        first | (rw [twho, if_pos c18]; done) | (rw [twho, if_neg (by simp [c18])]; done)
      · refine px_iload_n dX4_thievesWhoMayRob_21 rfl ?_
        refine px_iconst (v := nI 1) dX4_thievesWhoMayRob_22 (by decide) ?_
        refine px_iload_n dX4_thievesWhoMayRob_23 rfl ?_
        refine px_ishl1 dX4_thievesWhoMayRob_24 (by omega) ?_
        refine px_iorN dX4_thievesWhoMayRob_25 ?_
        refine px_istn_2 dX4_thievesWhoMayRob_26 (by decide) rfl ?_
        refine px_inc_3 dX4_thievesWhoMayRob_27 rfl (nI_1 _) (by decide) rfl ?_
        refine px_goto 4 dX4_thievesWhoMayRob_30 (by decide) ?_
        refine px_eq (lo2 := [some (.ref b), some (.int (nI a)), some (.int (nI (twho T a (i + 1)))), some (.int (nI (i + 1)))]) ?_ rfl rfl (ih (i + 1) (by omega) (by omega))
        first | (rw [twho, if_pos c18]; done) | (rw [twho, if_neg (by simp [c18])]; done)
set_option maxHeartbeats 4000000 in
set_option maxRecDepth 100000 in
theorem c_X4_thievesWhoMayRob {E : xE} {h : xHp} {b : Nat} {T : xT} (hOK : tOK T) (a : Nat) (ha : a < 6) : PMI E mX4_thievesWhoMayRob [.ref b, .int (nI a)] (TH E h b T) (nI (twho T a (T.2 1))) (TH E h b T) := by
  refine pm_of [some (.ref b), some (.int (nI a)), none, none] (by decide +kernel) (Nat.le_of_ble_eq_true rfl) rfl ?_
  refine px_iconst (v := nI 0) dX4_thievesWhoMayRob_0 (by decide) ?_
  refine px_istn_2 dX4_thievesWhoMayRob_1 (by decide) rfl ?_
  refine px_iconst (v := nI 0) dX4_thievesWhoMayRob_2 (by decide) ?_
  refine px_istn_3 dX4_thievesWhoMayRob_3 (by decide) rfl ?_
  exact l_X4_thievesWhoMayRob hOK a ha (T.2 1 + 1) 0 (Nat.zero_le _) (by omega)
set_option maxHeartbeats 4000000 in
set_option maxRecDepth 100000 in
theorem l_X4_dearTogether {E : xE} {h : xHp} {b : Nat} {T : xT} (hOK : tOK T) : ∀ (n i : Nat), i ≤ T.2 0 → T.2 0 + 1 ≤ i + n → PW E mX4_dearTogether (fun v h1 => v = some (.int (nI (tsum T (T.2 0)))) ∧ h1 = TH E h b T) 0 0 4 [some (.ref b), some (.int (nI (tsum T i))), some (.int (nI i))] [] (TH E h b T) := by
  have hm6 := hOK.1.1
  intro n
  induction n with
  | zero =>
    intro i h1 h2
    omega
  | succ n ih =>
    intro i h1 h2
    refine px_iload_n dX4_dearTogether_4 rfl ?_
    refine px_aload_n dX4_dearTogether_5 rfl ?_
    refine px_tS 0 dX4_dearTogether_6 (Or.inl fl_X4_43) (by decide) ?_
    refine px_icmp_geN 38 dX4_dearTogether_9 (by decide) (by first | omega | exact hOK.lt (by decide) | exact hOK.lts (by decide)) (by first | omega | exact hOK.lt (by decide) | exact hOK.lts (by decide)) (fun c9 => ?_) (fun c9 => ?_)
    · refine px_iload_n dX4_dearTogether_38 rfl ?_
      have hi : i = T.2 0 := by omega
      subst hi
      exact px_iret dX4_dearTogether_39 rfl rfl rfl ⟨rfl, rfl⟩
    · refine px_aload_n dX4_dearTogether_12 rfl ?_
      refine px_tS 3 dX4_dearTogether_13 (Or.inl fl_X4_52) (by decide) ?_
      refine px_iload_n dX4_dearTogether_16 rfl ?_
      refine px_si (c_X5_has_n (T.2 3) i (by have := hOK.1.2.2.2.1; omega) (by omega)) mw_X5_has wt_X5_has (Or.inr ⟨_, ml_X4_62⟩) dX4_dearTogether_17 (by decide) rfl rfl (Nat.le_of_ble_eq_true rfl) ⟨rfl, rfl⟩ ?_
      refine px_if_neB 32 dX4_dearTogether_20 (by decide) (fun c20 => ?_) (fun c20 => ?_)
      · refine px_inc_2 dX4_dearTogether_32 rfl (nI_1 _) (by decide) rfl ?_
        refine px_goto 4 dX4_dearTogether_35 (by decide) ?_
        refine px_eq (lo2 := [some (.ref b), some (.int (nI (tsum T (i + 1)))), some (.int (nI (i + 1)))]) ?_ rfl rfl (ih (i + 1) (by omega) (by omega))
        first | (rw [tsum, if_pos c20]; done) | (rw [tsum, if_neg (by simp [c20])]; done)
      · refine px_iload_n dX4_dearTogether_23 rfl ?_
        refine px_aload_n dX4_dearTogether_24 rfl ?_
        refine px_tR 2 dX4_dearTogether_25 (Or.inl fl_X4_18) (by decide) ?_
        refine px_iload_n dX4_dearTogether_28 rfl ?_
        refine px_tL 2 dX4_dearTogether_29 (by decide) (by show _ < 6; omega) ?_
        refine px_iaddN dX4_dearTogether_30 ?_
        refine px_istn_1 dX4_dearTogether_31 (by decide) rfl ?_
        refine px_inc_2 dX4_dearTogether_32 rfl (nI_1 _) (by decide) rfl ?_
        refine px_goto 4 dX4_dearTogether_35 (by decide) ?_
        refine px_eq (lo2 := [some (.ref b), some (.int (nI (tsum T (i + 1)))), some (.int (nI (i + 1)))]) ?_ rfl rfl (ih (i + 1) (by omega) (by omega))
        first | (rw [tsum, if_pos c20]; done) | (rw [tsum, if_neg (by simp [c20])]; done)
set_option maxHeartbeats 4000000 in
set_option maxRecDepth 100000 in
theorem c_X4_dearTogether {E : xE} {h : xHp} {b : Nat} {T : xT} (hOK : tOK T) : PMI E mX4_dearTogether [.ref b] (TH E h b T) (nI (tsum T (T.2 0))) (TH E h b T) := by
  refine pm_of [some (.ref b), none, none] (by decide +kernel) (Nat.le_of_ble_eq_true rfl) rfl ?_
  refine px_iconst (v := nI 0) dX4_dearTogether_0 (by decide) ?_
  refine px_istn_1 dX4_dearTogether_1 (by decide) rfl ?_
  refine px_iconst (v := nI 0) dX4_dearTogether_2 (by decide) ?_
  refine px_istn_2 dX4_dearTogether_3 (by decide) rfl ?_
  exact l_X4_dearTogether hOK (T.2 0 + 1) 0 (Nat.zero_le _) (by omega)
set_option maxHeartbeats 4000000 in
set_option maxRecDepth 100000 in
theorem c_X4_everybody {E : xE} {h : xHp} {b : Nat} {T : xT} (hOK : tOK T) : PMI E mX4_everybody [.ref b] (TH E h b T) (nI (2 ^ (T.2 0) - 1)) (TH E h b T) := by
  refine pm_of [some (.ref b)] (by decide +kernel) (Nat.le_of_ble_eq_true rfl) rfl ?_
  refine px_iconst (v := nI 1) dX4_everybody_0 (by decide) ?_
  refine px_aload_n dX4_everybody_1 rfl ?_
  refine px_tS 0 dX4_everybody_2 (Or.inl fl_X4_43) (by decide) ?_
  have hm6 := hOK.1.1
  refine px_ishl1 dX4_everybody_5 (by omega) ?_
  refine px_iconst (v := nI 1) dX4_everybody_6 (by decide) ?_
  have hp : 0 < 2 ^ (T.2 0) := Nat.pow_pos (by omega)
  refine px_isubN dX4_everybody_7 (by omega) ?_
  exact px_iret dX4_everybody_8 rfl rfl rfl ⟨rfl, rfl⟩
theorem hbit_from {t : Nat} (ht : t < 4) : ∀ i, i < 4 → hbit ((-1) <<< (nI t &&& 31)) i = decide (t ≤ i) := by
  have := (by decide +kernel : ∀ t, t < 4 → ∀ i, i < 4 → hbit ((-1) <<< (nI t &&& 31)) i = decide (t ≤ i))
  exact this t ht
theorem hbit_0 : ∀ i, i < 4 → hbit (nI 0) i = false := by decide +kernel
theorem hbit_1 {t : Nat} (ht : t < 4) : ∀ i, i < 4 → hbit (nI (2 ^ t)) i = decide (i = t) := by
  have := (by decide +kernel : ∀ t, t < 4 → ∀ i, i < 4 → hbit (nI (2 ^ t)) i = decide (i = t))
  exact this t ht
theorem hbit_s {w : Nat} (hw : w < 16) : ∀ i, i < 4 → hbit (nI w) i = w.testBit i := fun i hi => hbit_n (by omega) (by omega)
set_option maxHeartbeats 4000000 in
set_option maxRecDepth 100000 in
theorem c_X4_victimTonight {E : xE} {h : xHp} {b : Nat} {T : xT} (hOK : tOK T) (t : Nat) (ht : t < 4) : PMI E mX4_victimTonight [.ref b, .int (nI t)] (TH E h b T) (oI (tvic T t (trob T (fun i => decide (t ≤ i)) (T.2 1)) (T.2 0))) (TH E h b T) := by
  refine pm_of [some (.ref b), some (.int (nI t)), none] (by decide +kernel) (Nat.le_of_ble_eq_true rfl) rfl ?_
  refine px_iconst (v := -1) dX4_victimTonight_0 (by decide) ?_
  refine px_iload_n dX4_victimTonight_1 rfl ?_
  refine px_ishl dX4_victimTonight_2 ?_
  refine px_istn_2 dX4_victimTonight_3 (by decide) rfl ?_
  refine px_aload_n dX4_victimTonight_4 rfl ?_
  refine px_iload_n dX4_victimTonight_5 rfl ?_
  refine px_aload_n dX4_victimTonight_6 rfl ?_
  refine px_iload_n dX4_victimTonight_7 rfl ?_
  refine px_vi (M2 := mX4_robbedTonight) (c_X4_robbed hOK _ (fun i => decide (t ≤ i)) (hbit_from ht)) mw_X4_robbedTonight wm_X4_robbedTonight we_X4_robbedTonight (Or.inl ml_X4_73) dX4_victimTonight_8 (TH_obj) rfl (by decide) rfl rfl (Nat.le_of_ble_eq_true rfl) ⟨rfl, rfl⟩ ?_
  refine px_vi (M2 := mX4_victim) (c_X4_victim hOK t _ ht (trob_lt hOK.1.1 _)) mw_X4_victim wm_X4_victim we_X4_victim (Or.inl ml_X4_69) dX4_victimTonight_11 (TH_obj) rfl (by decide) rfl rfl (Nat.le_of_ble_eq_true rfl) ⟨rfl, rfl⟩ ?_
  exact px_iret dX4_victimTonight_14 rfl rfl rfl ⟨rfl, rfl⟩
def taddA (T : xT) (k s c : Nat) : xT := tSS (tshow (tSA (tSA (tSA (tSA T 0 (T.2 0) k) 1 (T.2 0) s) 2 (T.2 0) 0) 3 (T.2 0) c) (T.2 0) true) 0 (T.2 0 + 1)
def taddT (T : xT) (k w : Nat) : xT := tSS (tSA (tSA T 4 (T.2 1) k) 5 (T.2 1) w) 1 (T.2 1 + 1)
def tempty (T : xT) : xT := tSS (tSS (tSS (tSS (tSS T 0 0) 1 0) 2 0) 3 0) 4 0
theorem taddA_ok {T : xT} {k s c : Nat} (h : tOK T) (ha : T.2 0 < 6) (hk : k ≤ 4) (hs : s ≤ 3) (hc : c ≤ 9) : tOK (taddA T k s c) := tSS_ok (tshow_ok (tSA_ok (tSA_ok (tSA_ok (tSA_ok h (by omega)) (by omega)) (by omega)) (by omega)) ha) (by omega)
theorem taddT_ok {T : xT} {k w : Nat} (h : tOK T) (ha : T.2 1 < 4) (hk : k ≤ 9) (hw : w ≤ 4) : tOK (taddT T k w) := tSS_ok (tSA_ok (tSA_ok h (by omega)) (by omega)) (by omega)
theorem tempty_ok {T : xT} (h : tOK T) : tOK (tempty T) := tSS_ok (tSS_ok (tSS_ok (tSS_ok (tSS_ok h (by omega)) (by omega)) (by omega)) (by omega)) (by omega)
set_option maxHeartbeats 4000000 in
set_option maxRecDepth 100000 in
theorem c_X4_addApprentice {E : xE} {h : xHp} {b : Nat} {T : xT} (hOK : tOK T) (k s c : Nat) (ha : T.2 0 < 6) : PMI E mX4_addApprentice [.ref b, .int (nI k), .int (nI s), .int (nI c)] (TH E h b T) (nI (T.2 0)) (TH E h b (taddA T k s c)) := by
  refine pm_of [some (.ref b), some (.int (nI k)), some (.int (nI s)), some (.int (nI c)), none] (by decide +kernel) (Nat.le_of_ble_eq_true rfl) rfl ?_
  refine px_aload_n dX4_addApprentice_0 rfl ?_
  refine px_tS 0 dX4_addApprentice_1 (Or.inl fl_X4_43) (by decide) ?_
  refine px_ist_4 dX4_addApprentice_4 (by decide) rfl ?_
  refine px_iload dX4_addApprentice_6 rfl ?_
  refine px_bipush (v := nI 6) dX4_addApprentice_8 (by decide) ?_
  refine px_icmp_ltN 16 dX4_addApprentice_10 (by decide) (by first | omega | exact hOK.lt (by decide) | exact hOK.lts (by decide)) (by first | omega | exact hOK.lt (by decide) | exact hOK.lts (by decide)) (fun c10 => ?_) (fun c10 => ?_)
  · refine px_aload_n dX4_addApprentice_16 rfl ?_
    refine px_tR 0 dX4_addApprentice_17 (Or.inl fl_X4_9) (by decide) ?_
    refine px_iload dX4_addApprentice_20 rfl ?_
    refine px_iload_n dX4_addApprentice_22 rfl ?_
    refine px_tW 0 dX4_addApprentice_23 (by decide) (by show _ < 6; omega) ?_
    refine px_aload_n dX4_addApprentice_24 rfl ?_
    refine px_tR 1 dX4_addApprentice_25 (Or.inl fl_X4_15) (by decide) ?_
    refine px_iload dX4_addApprentice_28 rfl ?_
    refine px_iload_n dX4_addApprentice_30 rfl ?_
    refine px_tW 1 dX4_addApprentice_31 (by decide) (by show _ < 6; omega) ?_
    refine px_aload_n dX4_addApprentice_32 rfl ?_
    refine px_tR 2 dX4_addApprentice_33 (Or.inl fl_X4_18) (by decide) ?_
    refine px_iload dX4_addApprentice_36 rfl ?_
    refine px_iconst (v := nI 0) dX4_addApprentice_38 (by decide) ?_
    refine px_tW 2 dX4_addApprentice_39 (by decide) (by show _ < 6; omega) ?_
    refine px_aload_n dX4_addApprentice_40 rfl ?_
    refine px_tR 3 dX4_addApprentice_41 (Or.inl fl_X4_21) (by decide) ?_
    refine px_iload dX4_addApprentice_44 rfl ?_
    refine px_iload_n dX4_addApprentice_46 rfl ?_
    refine px_tW 3 dX4_addApprentice_47 (by decide) (by show _ < 6; omega) ?_
    refine px_aload_n dX4_addApprentice_48 rfl ?_
    refine px_iload dX4_addApprentice_49 rfl ?_
    refine px_iconst (v := nI 1) dX4_addApprentice_51 (by decide) ?_
    refine px_vv (M2 := mX4_setShown) (c_X4_setShown (T.2 0) true ha) mw_X4_setShown wm_X4_setShown we_X4_setShown (Or.inl ml_X4_58) dX4_addApprentice_52 (TH_obj) rfl (by decide) rfl rfl (Nat.le_of_ble_eq_true rfl) ⟨rfl, rfl⟩ ?_
    refine px_aload_n dX4_addApprentice_55 rfl ?_
    refine px_iload dX4_addApprentice_56 rfl ?_
    refine px_iconst (v := nI 1) dX4_addApprentice_58 (by decide) ?_
    refine px_iaddN dX4_addApprentice_59 ?_
    refine px_tP 0 dX4_addApprentice_60 (Or.inl fl_X4_43) (by decide) ?_
    refine px_iload dX4_addApprentice_63 rfl ?_
    exact px_iret dX4_addApprentice_65 rfl rfl rfl ⟨rfl, rfl⟩
  · omega
set_option maxHeartbeats 4000000 in
set_option maxRecDepth 100000 in
theorem c_X4_addThief {E : xE} {h : xHp} {b : Nat} {T : xT} (hOK : tOK T) (k w : Nat) (ha : T.2 1 < 4) : PMI E mX4_addThief [.ref b, .int (nI k), .int (nI w)] (TH E h b T) (nI (T.2 1)) (TH E h b (taddT T k w)) := by
  refine pm_of [some (.ref b), some (.int (nI k)), some (.int (nI w)), none] (by decide +kernel) (Nat.le_of_ble_eq_true rfl) rfl ?_
  refine px_aload_n dX4_addThief_0 rfl ?_
  refine px_tS 1 dX4_addThief_1 (Or.inl fl_X4_46) (by decide) ?_
  refine px_istn_3 dX4_addThief_4 (by decide) rfl ?_
  refine px_iload_n dX4_addThief_5 rfl ?_
  refine px_iconst (v := nI 4) dX4_addThief_6 (by decide) ?_
  refine px_icmp_ltN 13 dX4_addThief_7 (by decide) (by first | omega | exact hOK.lt (by decide) | exact hOK.lts (by decide)) (by first | omega | exact hOK.lt (by decide) | exact hOK.lts (by decide)) (fun c7 => ?_) (fun c7 => ?_)
  · refine px_aload_n dX4_addThief_13 rfl ?_
    refine px_tR 4 dX4_addThief_14 (Or.inl fl_X4_24) (by decide) ?_
    refine px_iload_n dX4_addThief_17 rfl ?_
    refine px_iload_n dX4_addThief_18 rfl ?_
    refine px_tW 4 dX4_addThief_19 (by decide) (by show _ < 4; omega) ?_
    refine px_aload_n dX4_addThief_20 rfl ?_
    refine px_tR 5 dX4_addThief_21 (Or.inl fl_X4_27) (by decide) ?_
    refine px_iload_n dX4_addThief_24 rfl ?_
    refine px_iload_n dX4_addThief_25 rfl ?_
    refine px_tW 5 dX4_addThief_26 (by decide) (by show _ < 4; omega) ?_
    refine px_aload_n dX4_addThief_27 rfl ?_
    refine px_iload_n dX4_addThief_28 rfl ?_
    refine px_iconst (v := nI 1) dX4_addThief_29 (by decide) ?_
    refine px_iaddN dX4_addThief_30 ?_
    refine px_tP 1 dX4_addThief_31 (Or.inl fl_X4_46) (by decide) ?_
    refine px_iload_n dX4_addThief_34 rfl ?_
    exact px_iret dX4_addThief_35 rfl rfl rfl ⟨rfl, rfl⟩
  · omega
set_option maxHeartbeats 4000000 in
set_option maxRecDepth 100000 in
theorem c_X4_empty {E : xE} {h : xHp} {b : Nat} {T : xT} : PMV E mX4_empty [.ref b] (TH E h b T) (TH E h b (tempty T)) := by
  refine pm_of [some (.ref b)] (by decide +kernel) (Nat.le_of_ble_eq_true rfl) rfl ?_
  refine px_aload_n dX4_empty_0 rfl ?_
  refine px_iconst (v := nI 0) dX4_empty_1 (by decide) ?_
  refine px_tP 0 dX4_empty_2 (Or.inl fl_X4_43) (by decide) ?_
  refine px_aload_n dX4_empty_5 rfl ?_
  refine px_iconst (v := nI 0) dX4_empty_6 (by decide) ?_
  refine px_tP 1 dX4_empty_7 (Or.inl fl_X4_46) (by decide) ?_
  refine px_aload_n dX4_empty_10 rfl ?_
  refine px_iconst (v := nI 0) dX4_empty_11 (by decide) ?_
  refine px_tP 2 dX4_empty_12 (Or.inl fl_X4_49) (by decide) ?_
  refine px_aload_n dX4_empty_15 rfl ?_
  refine px_iconst (v := nI 0) dX4_empty_16 (by decide) ?_
  refine px_tP 3 dX4_empty_17 (Or.inl fl_X4_52) (by decide) ?_
  refine px_aload_n dX4_empty_20 rfl ?_
  refine px_iconst (v := nI 0) dX4_empty_21 (by decide) ?_
  refine px_tP 4 dX4_empty_22 (Or.inl fl_X4_55) (by decide) ?_
  exact px_vret dX4_empty_25 rfl rfl rfl ⟨rfl, rfl⟩
set_option maxHeartbeats 4000000 in
set_option maxRecDepth 100000 in
theorem l_X4_drawWhoShows {E : xE} {h : xHp} {b : Nat} {T : xT} (hOK : tOK T) : PW E mX4_drawWhoShows (fun v h1 => v = none ∧ h1 = TH E h b (tdr2 T)) 0 0 18 [some (.ref b)] [] (TH E h b T) := by
  have hm6 := hOK.1.1
  have hm7 := hOK.1.2.2.2.2.2.2
  refine px_aload_n dX4_drawWhoShows_18 rfl ?_
  refine px_tS 0 dX4_drawWhoShows_19 (Or.inl fl_X4_43) (by decide) ?_
  refine px_if_leN 59 dX4_drawWhoShows_22 (by decide) (by first | omega | exact hOK.lt (by decide) | exact hOK.lts (by decide)) (fun c22 => ?_) (fun c22 => ?_)
  · exact px_vret dX4_drawWhoShows_59 rfl rfl rfl ⟨rfl, by rw [tdr2, if_pos c22]⟩
  · refine px_aload_n dX4_drawWhoShows_25 rfl ?_
    refine px_aload_n dX4_drawWhoShows_26 rfl ?_
    refine px_tS 6 dX4_drawWhoShows_27 (Or.inl fl_X4_34) (by decide) ?_
    refine px_ldc dX4_drawWhoShows_30 kc_X4_94 ?_
    refine px_topi (nI_lit 65536) ?_
    refine px_idivN dX4_drawWhoShows_32 (by first | omega | exact hOK.lt (by decide) | exact hOK.lts (by decide)) (by first | omega | exact hOK.lt (by decide) | exact hOK.lts (by decide)) (by first | omega | exact hOK.lt (by decide) | exact hOK.lts (by decide)) ?_
    refine px_aload_n dX4_drawWhoShows_33 rfl ?_
    refine px_tS 0 dX4_drawWhoShows_34 (Or.inl fl_X4_43) (by decide) ?_
    refine px_iremN dX4_drawWhoShows_37 (by omega) c22 (by omega) ?_
    refine px_aload_n dX4_drawWhoShows_38 rfl ?_
    refine px_tS 6 dX4_drawWhoShows_39 (Or.inl fl_X4_34) (by decide) ?_
    refine px_sipush (v := nI 128) dX4_drawWhoShows_42 (by decide) ?_
    refine px_idivN dX4_drawWhoShows_45 (by first | omega | exact hOK.lt (by decide) | exact hOK.lts (by decide)) (by first | omega | exact hOK.lt (by decide) | exact hOK.lts (by decide)) (by first | omega | exact hOK.lt (by decide) | exact hOK.lts (by decide)) ?_
    refine px_iconst (v := nI 2) dX4_drawWhoShows_46 (by decide) ?_
    refine px_iremN dX4_drawWhoShows_47 (by first | omega | exact hOK.lt (by decide) | exact hOK.lts (by decide)) (by first | omega | exact hOK.lt (by decide) | exact hOK.lts (by decide)) (by first | omega | exact hOK.lt (by decide) | exact hOK.lts (by decide)) ?_
    refine px_if_neN 55 dX4_drawWhoShows_48 (by decide) (by first | omega | exact hOK.lt (by decide) | exact hOK.lts (by decide)) (fun c48 => ?_) (fun c48 => ?_)
    · refine px_iconst (v := nI 0) dX4_drawWhoShows_55 (by decide) ?_
      have hlt : T.2 6 / 65536 % T.2 0 < 6 := by have := Nat.mod_lt (T.2 6 / 65536) c22; omega
      refine px_vv (M2 := mX4_setShown) (c_X4_setShown (T.2 6 / 65536 % T.2 0) false hlt) mw_X4_setShown wm_X4_setShown we_X4_setShown (Or.inl ml_X4_58) dX4_drawWhoShows_56 (TH_obj) rfl (by decide) rfl rfl (Nat.le_of_ble_eq_true rfl) ⟨rfl, rfl⟩ ?_
      have e48 : decide (T.2 6 / 128 % 2 = 0) = false := decide_eq_false c48
      exact px_vret dX4_drawWhoShows_59 rfl rfl rfl ⟨rfl, by rw [tdr2, if_neg (show ¬ T.2 0 = 0 by omega), e48]⟩
    · refine px_iconst (v := nI 1) dX4_drawWhoShows_51 (by decide) ?_
      refine px_goto 56 dX4_drawWhoShows_52 (by decide) ?_
      have hlt : T.2 6 / 65536 % T.2 0 < 6 := by have := Nat.mod_lt (T.2 6 / 65536) c22; omega
      refine px_vv (M2 := mX4_setShown) (c_X4_setShown (T.2 6 / 65536 % T.2 0) true hlt) mw_X4_setShown wm_X4_setShown we_X4_setShown (Or.inl ml_X4_58) dX4_drawWhoShows_56 (TH_obj) rfl (by decide) rfl rfl (Nat.le_of_ble_eq_true rfl) ⟨rfl, rfl⟩ ?_
      have e48 : decide (T.2 6 / 128 % 2 = 0) = true := decide_eq_true c48
      exact px_vret dX4_drawWhoShows_59 rfl rfl rfl ⟨rfl, by rw [tdr2, if_neg (show ¬ T.2 0 = 0 by omega), e48]⟩
set_option maxHeartbeats 4000000 in
set_option maxRecDepth 100000 in
theorem c_X4_drawWhoShows {E : xE} {h : xHp} {b : Nat} {T : xT} (hOK : tOK T) : PMV E mX4_drawWhoShows [.ref b] (TH E h b T) (TH E h b (tdraw T)) := by
  refine pm_of [some (.ref b)] (by decide +kernel) (Nat.le_of_ble_eq_true rfl) rfl ?_
  refine px_aload_n dX4_drawWhoShows_0 rfl ?_
  refine px_aload_n dX4_drawWhoShows_1 rfl ?_
  refine px_tS 6 dX4_drawWhoShows_2 (Or.inl fl_X4_34) (by decide) ?_
  refine px_ldc dX4_drawWhoShows_5 kc_X4_92 ?_
  refine px_topi (nI_lit 1103515245) ?_
  refine px_imulN dX4_drawWhoShows_7 ?_
  refine px_sipush (v := nI 12345) dX4_drawWhoShows_8 (by decide) ?_
  refine px_iaddN dX4_drawWhoShows_11 ?_
  refine px_ldc dX4_drawWhoShows_12 kc_X4_93 ?_
  refine px_topi (nI_lit 2147483647) ?_
  refine px_iandN dX4_drawWhoShows_14 ?_
  rw [and31]
  refine px_tP 6 dX4_drawWhoShows_15 (Or.inl fl_X4_34) (by decide) ?_
  exact l_X4_drawWhoShows (tdr1_ok hOK)
