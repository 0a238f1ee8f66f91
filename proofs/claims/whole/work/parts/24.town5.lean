def treach (T : xT) (set : Nat) : Nat → Nat
  | 0 => 0
  | n + 1 => if set.testBit n then treach T set n ||| twhom T n (T.2 0) else treach T set n
def tmost (T : xT) : Nat → Nat
  | 0 => T.2 1
  | s + 1 => min (tmost T s) (T.2 1 - bc s + bc (treach T s (T.2 1)))
def tways (T : xT) (a c : Nat) : Nat → Nat
  | 0 => 0
  | s + 1 => if (trob T (fun i => s.testBit i) (T.2 1)).testBit a then tways T a c s + c ^ bc s * (10 - c) ^ (T.2 1 - bc s) else tways T a c s
theorem treach_lt {T : xT} {set : Nat} (h : T.2 0 ≤ 6) : ∀ n, treach T set n < 64
  | 0 => by rw [treach]; decide
  | n + 1 => by
    rw [treach]
    split
    · exact Nat.or_lt_two_pow (n := 6) (treach_lt h n) (twhom_lt _ h)
    · exact treach_lt h n
theorem tmost_le {T : xT} : ∀ s, tmost T s ≤ T.2 1
  | 0 => Nat.le_refl _
  | s + 1 => by rw [tmost]; have := tmost_le (T := T) s; omega
theorem pow_thv {k : Nat} (h : k ≤ 4) : 2 ^ k ≤ 16 := Nat.pow_le_pow_right (n := 2) (by omega) h
set_option maxHeartbeats 4000000 in
set_option maxRecDepth 100000 in
theorem l_X4_mostRobbedAtOnce_in {E : xE} {h : xHp} {b : Nat} {T : xT} {Q : Option Value → xHp → Prop} (hOK : tOK T) (set mo : Nat) (hs : set < 16) (kk : PW E mX4_mostRobbedAtOnce Q 0 0 55 [some (.ref b), some (.int (nI mo)), some (.int (nI set)), some (.int (nI (treach T set (T.2 1)))), some (.int (nI (T.2 1)))] [] (TH E h b T)) : ∀ (n i : Nat), i ≤ T.2 1 → T.2 1 + 1 ≤ i + n → PW E mX4_mostRobbedAtOnce Q 0 0 22 [some (.ref b), some (.int (nI mo)), some (.int (nI set)), some (.int (nI (treach T set i))), some (.int (nI i))] [] (TH E h b T) := by
  have hm4 := hOK.1.2.1
  intro n
  induction n with
  | zero =>
    intro i h1 h2
    omega
  | succ n ih =>
    intro i h1 h2
    refine px_iload dX4_mostRobbedAtOnce_22 rfl ?_
    refine px_aload_n dX4_mostRobbedAtOnce_24 rfl ?_
    refine px_tS 1 dX4_mostRobbedAtOnce_25 (Or.inl fl_X4_46) (by decide) ?_
    refine px_icmp_geN 55 dX4_mostRobbedAtOnce_28 (by decide) (by first | omega | exact hOK.lt (by decide) | exact hOK.lts (by decide)) (by first | omega | exact hOK.lt (by decide) | exact hOK.lts (by decide)) (fun c28 => ?_) (fun c28 => ?_)
    · have hi : i = T.2 1 := by omega
      subst hi
      exact kk
    · refine px_iload_n dX4_mostRobbedAtOnce_31 rfl ?_
      refine px_iload dX4_mostRobbedAtOnce_32 rfl ?_
      refine px_si (c_X5_has_n set i (by omega) (by omega)) mw_X5_has wt_X5_has (Or.inr ⟨_, ml_X4_62⟩) dX4_mostRobbedAtOnce_34 (by decide) rfl rfl (Nat.le_of_ble_eq_true rfl) ⟨rfl, rfl⟩ ?_
      refine px_if_eqB 49 dX4_mostRobbedAtOnce_37 (by decide) (fun c37 => ?_) (fun c37 => ?_)
      · refine px_inc_4 dX4_mostRobbedAtOnce_49 rfl (nI_1 _) (by decide) rfl ?_
        refine px_goto 22 dX4_mostRobbedAtOnce_52 (by decide) ?_
        refine px_eq (lo2 := [some (.ref b), some (.int (nI mo)), some (.int (nI set)), some (.int (nI (treach T set (i + 1)))), some (.int (nI (i + 1)))]) ?_ rfl rfl (ih (i + 1) (by omega) (by omega))
        first | (rw [treach, if_pos c37]; done) | (rw [treach, if_neg (by simp [c37])]; done)
      · refine px_iload_n dX4_mostRobbedAtOnce_40 rfl ?_
        refine px_aload_n dX4_mostRobbedAtOnce_41 rfl ?_
        refine px_iload dX4_mostRobbedAtOnce_42 rfl ?_
        refine px_vi (M2 := mX4_whomMayRob) (c_X4_whomMayRob hOK i (by omega)) mw_X4_whomMayRob wm_X4_whomMayRob we_X4_whomMayRob (Or.inl ml_X4_95) dX4_mostRobbedAtOnce_44 (TH_obj) rfl (by decide) rfl rfl (Nat.le_of_ble_eq_true rfl) ⟨rfl, rfl⟩ ?_
        refine px_iorN dX4_mostRobbedAtOnce_47 ?_
        refine px_istn_3 dX4_mostRobbedAtOnce_48 (by decide) rfl ?_
        refine px_inc_4 dX4_mostRobbedAtOnce_49 rfl (nI_1 _) (by decide) rfl ?_
        refine px_goto 22 dX4_mostRobbedAtOnce_52 (by decide) ?_
        refine px_eq (lo2 := [some (.ref b), some (.int (nI mo)), some (.int (nI set)), some (.int (nI (treach T set (i + 1)))), some (.int (nI (i + 1)))]) ?_ rfl rfl (ih (i + 1) (by omega) (by omega))
        first | (rw [treach, if_pos c37]; done) | (rw [treach, if_neg (by simp [c37])]; done)
set_option maxHeartbeats 4000000 in
set_option maxRecDepth 100000 in
theorem l_X4_mostRobbedAtOnce {E : xE} {h : xHp} {b : Nat} {T : xT} (hOK : tOK T) : ∀ (n set : Nat), set ≤ 2 ^ T.2 1 → 2 ^ T.2 1 + 1 ≤ set + n → PW E mX4_mostRobbedAtOnce (fun v h1 => v = some (.int (nI (tmost T (2 ^ T.2 1)))) ∧ h1 = TH E h b T) 0 0 7 [some (.ref b), some (.int (nI (tmost T set))), some (.int (nI set)), none, none] [] (TH E h b T) := by
  have hm4 := hOK.1.2.1
  intro n
  induction n with
  | zero =>
    intro set h1 h2
    omega
  | succ n ih =>
    intro set h1 h2
    refine px_iload_n dX4_mostRobbedAtOnce_7 rfl ?_
    refine px_iconst (v := nI 1) dX4_mostRobbedAtOnce_8 (by decide) ?_
    refine px_aload_n dX4_mostRobbedAtOnce_9 rfl ?_
    refine px_tS 1 dX4_mostRobbedAtOnce_10 (Or.inl fl_X4_46) (by decide) ?_
    refine px_ishl1 dX4_mostRobbedAtOnce_13 (by omega) ?_
    have hp := pow_thv hm4
    refine px_icmp_geN 80 dX4_mostRobbedAtOnce_14 (by decide) (by first | omega | exact hOK.lt (by decide) | exact hOK.lts (by decide)) (by first | omega | exact hOK.lt (by decide) | exact hOK.lts (by decide)) (fun c14 => ?_) (fun c14 => ?_)
    · refine px_iload_n dX4_mostRobbedAtOnce_80 rfl ?_
      have hi : set = 2 ^ T.2 1 := by omega
      subst hi
      exact px_iret dX4_mostRobbedAtOnce_81 rfl rfl rfl ⟨rfl, rfl⟩
    · refine px_iconst (v := nI 0) dX4_mostRobbedAtOnce_17 (by decide) ?_
      refine px_istn_3 dX4_mostRobbedAtOnce_18 (by decide) rfl ?_
      refine px_iconst (v := nI 0) dX4_mostRobbedAtOnce_19 (by decide) ?_
      refine px_ist_4 dX4_mostRobbedAtOnce_20 (by decide) rfl ?_
      refine l_X4_mostRobbedAtOnce_in hOK set _ (by omega) ?_ (T.2 1 + 1) 0 (Nat.zero_le _) (by omega)
      refine px_iload_n dX4_mostRobbedAtOnce_55 rfl ?_
      refine px_aload_n dX4_mostRobbedAtOnce_56 rfl ?_
      refine px_tS 1 dX4_mostRobbedAtOnce_57 (Or.inl fl_X4_46) (by decide) ?_
      refine px_iload_n dX4_mostRobbedAtOnce_60 rfl ?_
      have hb4 := bc_le (T.2 1) hm4 set c14
      refine px_si (c_J6_bitCount_0f7a4 set (by omega)) mw_J6_bitCount_0f7a4 wt_J6_bitCount_0f7a4 (Or.inl ml_X4_98) dX4_mostRobbedAtOnce_61 (by decide) rfl rfl (Nat.le_of_ble_eq_true rfl) ⟨rfl, rfl⟩ ?_
      refine px_isubN dX4_mostRobbedAtOnce_64 (by omega) ?_
      refine px_iload_n dX4_mostRobbedAtOnce_65 rfl ?_
      refine px_si (c_J6_bitCount_0f7a4 _ (treach_lt hOK.1.1 _)) mw_J6_bitCount_0f7a4 wt_J6_bitCount_0f7a4 (Or.inl ml_X4_98) dX4_mostRobbedAtOnce_66 (by decide) rfl rfl (Nat.le_of_ble_eq_true rfl) ⟨rfl, rfl⟩ ?_
      refine px_iaddN dX4_mostRobbedAtOnce_69 ?_
      have hb6 := bc_6 (treach T set (T.2 1))
      have hmo := tmost_le (T := T) set
      refine px_min dX4_mostRobbedAtOnce_70 ml_X4_84 wt_Math_min wi_java_lang_Math wc_Math_min (by decide) (Nat.le_of_ble_eq_true rfl) ⟨Nat.zero_le _, Nat.zero_le _⟩ ?_
      refine px_topi (nI_min (by omega) (by omega)) ?_
      refine px_istn_1 dX4_mostRobbedAtOnce_73 (by decide) rfl ?_
      refine px_inc_2 dX4_mostRobbedAtOnce_74 rfl (nI_1 _) (by decide) rfl ?_
      refine px_goto 7 dX4_mostRobbedAtOnce_77 (by decide) ?_
      refine px_fg_3 (px_fg_4 ?_)
      exact ih (set + 1) (by omega) (by omega)
set_option maxHeartbeats 4000000 in
set_option maxRecDepth 100000 in
theorem c_X4_mostRobbedAtOnce {E : xE} {h : xHp} {b : Nat} {T : xT} (hOK : tOK T) : PMI E mX4_mostRobbedAtOnce [.ref b] (TH E h b T) (nI (tmost T (2 ^ T.2 1))) (TH E h b T) := by
  refine pm_of [some (.ref b), none, none, none, none] (by decide +kernel) (Nat.le_of_ble_eq_true rfl) rfl ?_
  refine px_aload_n dX4_mostRobbedAtOnce_0 rfl ?_
  refine px_tS 1 dX4_mostRobbedAtOnce_1 (Or.inl fl_X4_46) (by decide) ?_
  refine px_istn_1 dX4_mostRobbedAtOnce_4 (by decide) rfl ?_
  refine px_iconst (v := nI 0) dX4_mostRobbedAtOnce_5 (by decide) ?_
  refine px_istn_2 dX4_mostRobbedAtOnce_6 (by decide) rfl ?_
  exact l_X4_mostRobbedAtOnce hOK (2 ^ T.2 1 + 1) 0 (Nat.zero_le _) (by omega)
set_option maxHeartbeats 4000000 in
set_option maxRecDepth 100000 in
theorem l_X4_waysRobbed {E : xE} {h : xHp} {b : Nat} {T : xT} (hOK : tOK T) (a c : Nat) (ha : a < 6) (hc : c ≤ 10) : ∀ (n s : Nat), s ≤ 2 ^ T.2 1 → 2 ^ T.2 1 + 1 ≤ s + n → PW E mX4_waysRobbed (fun v h1 => v = some (.int (nI (tways T a c (2 ^ T.2 1)))) ∧ h1 = TH E h b T) 0 0 5 [some (.ref b), some (.int (nI a)), some (.int (nI c)), some (.int (nI (tways T a c s))), some (.int (nI s)), none] [] (TH E h b T) := by
  have hm4 := hOK.1.2.1
  intro n
  induction n with
  | zero =>
    intro s h1 h2
    omega
  | succ n ih =>
    intro s h1 h2
    refine px_iload dX4_waysRobbed_5 rfl ?_
    refine px_iconst (v := nI 1) dX4_waysRobbed_7 (by decide) ?_
    refine px_aload_n dX4_waysRobbed_8 rfl ?_
    refine px_tS 1 dX4_waysRobbed_9 (Or.inl fl_X4_46) (by decide) ?_
    refine px_ishl1 dX4_waysRobbed_12 (by omega) ?_
    have hp := pow_thv hm4
    refine px_icmp_geN 66 dX4_waysRobbed_13 (by decide) (by first | omega | exact hOK.lt (by decide) | exact hOK.lts (by decide)) (by first | omega | exact hOK.lt (by decide) | exact hOK.lts (by decide)) (fun c13 => ?_) (fun c13 => ?_)
    · refine px_iload_n dX4_waysRobbed_66 rfl ?_
      have hi : s = 2 ^ T.2 1 := by omega
      subst hi
      exact px_iret dX4_waysRobbed_67 rfl rfl rfl ⟨rfl, rfl⟩
    · refine px_aload_n dX4_waysRobbed_16 rfl ?_
      refine px_iload dX4_waysRobbed_17 rfl ?_
      refine px_vi (M2 := mX4_robbedTonight) (c_X4_robbed hOK (nI s) (fun i => s.testBit i) (hbit_s (by omega))) mw_X4_robbedTonight wm_X4_robbedTonight we_X4_robbedTonight (Or.inl ml_X4_73) dX4_waysRobbed_19 (TH_obj) rfl (by decide) rfl rfl (Nat.le_of_ble_eq_true rfl) ⟨rfl, rfl⟩ ?_
      refine px_iload_n dX4_waysRobbed_22 rfl ?_
      refine px_si (c_X5_has_n _ a (by have := trob_lt (T := T) (hm := fun i => s.testBit i) hOK.1.1 (T.2 1); omega) (by omega)) mw_X5_has wt_X5_has (Or.inr ⟨_, ml_X4_62⟩) dX4_waysRobbed_23 (by decide) rfl rfl (Nat.le_of_ble_eq_true rfl) ⟨rfl, rfl⟩ ?_
      refine px_if_eqB 60 dX4_waysRobbed_26 (by decide) (fun c26 => ?_) (fun c26 => ?_)
      · refine px_inc_4 dX4_waysRobbed_60 rfl (nI_1 _) (by decide) rfl ?_
        refine px_goto 5 dX4_waysRobbed_63 (by decide) ?_
        refine px_fg_5 ?_
        refine px_eq (lo2 := [some (.ref b), some (.int (nI a)), some (.int (nI c)), some (.int (nI (tways T a c (s + 1)))), some (.int (nI (s + 1))), none]) ?_ rfl rfl (ih (s + 1) (by omega) (by omega))
        first | (rw [tways, if_pos c26]; done) | (rw [tways, if_neg (by simp [c26])]; done)
      · have hb4 := bc_le (T.2 1) hm4 s c13
        refine px_iload dX4_waysRobbed_29 rfl ?_
        refine px_si (c_J6_bitCount_0f7a4 s (by omega)) mw_J6_bitCount_0f7a4 wt_J6_bitCount_0f7a4 (Or.inl ml_X4_98) dX4_waysRobbed_31 (by decide) rfl rfl (Nat.le_of_ble_eq_true rfl) ⟨rfl, rfl⟩ ?_
        refine px_ist_5 dX4_waysRobbed_34 (by decide) rfl ?_
        refine px_iload_n dX4_waysRobbed_36 rfl ?_
        refine px_iload_n dX4_waysRobbed_37 rfl ?_
        refine px_iload dX4_waysRobbed_38 rfl ?_
        refine px_si (c_X5_power c (bc s) (by omega)) mw_X5_power wt_X5_power (Or.inr ⟨_, ml_X4_103⟩) dX4_waysRobbed_40 (by decide) rfl rfl (Nat.le_of_ble_eq_true rfl) ⟨rfl, rfl⟩ ?_
        refine px_bipush (v := nI 10) dX4_waysRobbed_43 (by decide) ?_
        refine px_iload_n dX4_waysRobbed_45 rfl ?_
        refine px_isubN dX4_waysRobbed_46 (by omega) ?_
        refine px_aload_n dX4_waysRobbed_47 rfl ?_
        refine px_tS 1 dX4_waysRobbed_48 (Or.inl fl_X4_46) (by decide) ?_
        refine px_iload dX4_waysRobbed_51 rfl ?_
        refine px_isubN dX4_waysRobbed_53 (by omega) ?_
        refine px_si (c_X5_power (10 - c) (T.2 1 - bc s) (by omega)) mw_X5_power wt_X5_power (Or.inr ⟨_, ml_X4_103⟩) dX4_waysRobbed_54 (by decide) rfl rfl (Nat.le_of_ble_eq_true rfl) ⟨rfl, rfl⟩ ?_
        refine px_imulN dX4_waysRobbed_57 ?_
        refine px_iaddN dX4_waysRobbed_58 ?_
        refine px_istn_3 dX4_waysRobbed_59 (by decide) rfl ?_
        refine px_inc_4 dX4_waysRobbed_60 rfl (nI_1 _) (by decide) rfl ?_
        refine px_goto 5 dX4_waysRobbed_63 (by decide) ?_
        refine px_fg_5 ?_
        refine px_eq (lo2 := [some (.ref b), some (.int (nI a)), some (.int (nI c)), some (.int (nI (tways T a c (s + 1)))), some (.int (nI (s + 1))), none]) ?_ rfl rfl (ih (s + 1) (by omega) (by omega))
        first | (rw [tways, if_pos c26]; done) | (rw [tways, if_neg (by simp [c26])]; done)
set_option maxHeartbeats 4000000 in
set_option maxRecDepth 100000 in
theorem c_X4_waysRobbed {E : xE} {h : xHp} {b : Nat} {T : xT} (hOK : tOK T) (a c : Nat) (ha : a < 6) (hc : c ≤ 10) : PMI E mX4_waysRobbed [.ref b, .int (nI a), .int (nI c)] (TH E h b T) (nI (tways T a c (2 ^ T.2 1))) (TH E h b T) := by
  refine pm_of [some (.ref b), some (.int (nI a)), some (.int (nI c)), none, none, none] (by decide +kernel) (Nat.le_of_ble_eq_true rfl) rfl ?_
  refine px_iconst (v := nI 0) dX4_waysRobbed_0 (by decide) ?_
  refine px_istn_3 dX4_waysRobbed_1 (by decide) rfl ?_
  refine px_iconst (v := nI 0) dX4_waysRobbed_2 (by decide) ?_
  refine px_ist_4 dX4_waysRobbed_3 (by decide) rfl ?_
  exact l_X4_waysRobbed hOK a c ha hc (2 ^ T.2 1 + 1) 0 (Nat.zero_le _) (by omega)
