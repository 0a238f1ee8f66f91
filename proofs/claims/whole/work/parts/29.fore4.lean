def xFs (h : xHp) (bF bn bt bs : Nat) : Prop := xFo h bF bn bt ∧ (bs + 2 ≤ bn ∨ bn + 7 ≤ bs) ∧ (bs + 2 ≤ bt ∨ bt + 7 ≤ bs) ∧ (bF < bs ∨ bs + 2 ≤ bF)
theorem fs_fo {E : xE} {h : xHp} {bF bn bt bs : Nat} {S : xS} (hs : xFs h bF bn bt bs) : xFo (SH E h bs S) bF bn bt := by
  obtain ⟨⟨h1, h2, h3, h4⟩, -, -, h5⟩ := hs
  exact ⟨by unfold SH; rw [putB_out h5]; exact h1, h2, h3, h4⟩
theorem fs_swap {E : xE} {h : xHp} {bF bn bt bs : Nat} {Tn Tt : xT} {S : xS} (hs : xFs h bF bn bt bs) : FH E (SH E h bs S) bn bt Tn Tt = SH E (FH E h bn bt Tn Tt) bs S := by
  obtain ⟨-, h1, h2, -⟩ := hs
  unfold FH TH SH
  rw [putB_swap (k := bs) (k2 := bn) (by omega), putB_swap (k := bs) (k2 := bt) (by omega)]
theorem fs_obj {E : xE} {h : xHp} {bF bn bt bs : Nat} {Tn Tt : xT} {S : xS} (hs : xFs h bF bn bt bs) : FH E (SH E h bs S) bn bt Tn Tt bs = some (.inr (2, [.ref (bs + 1), .int S.2.1, .int (nI S.2.2)])) := by
  rw [fs_swap hs]; exact SH_obj
theorem fs_arr {E : xE} {h : xHp} {bF bn bt bs : Nat} {Tn Tt : xT} {S : xS} (hs : xFs h bF bn bt bs) : FH E (SH E h bs S) bn bt Tn Tt (bs + 1) = some (.inl (E.1.2 1, 24, .inr (.inl S.1))) := by
  rw [fs_swap hs]; exact SH_arr
/-- does it go as the row tells, from the i-th on, m more -/
def tgo (T : xT) (a : Nat) (its : Nat → Int64) (f : Nat) : Nat → Nat → Bool
  | 0, _ => true
  | m + 1, i => if its (f + i) = (nI ((tnights T hm0 (i + 1)).1 2 a)).toInt64 then tgo T a its f m (i + 1) else false
def tkin (T : xT) (a : Nat) (its : Nat → Int64) (f m : Nat) : Nat → Nat
  | 0 => 0
  | k + 1 => if tgo (tSA T 0 a k) a its f m 0 then tkin T a its f m k ||| 2 ^ k else tkin T a its f m k
def tnum (T : xT) (a : Nat) (its : Nat → Int64) (f m : Nat) : Nat → Nat
  | 0 => 0
  | k + 1 => if tgo (tSA T 2 a k) a its f m 0 then tnum T a its f m k + 1 else tnum T a its f m k
def stell (T : xT) (a : Nat) (S : xS) (f : Nat) : Nat → xS
  | 0 => S
  | k + 1 => sput (stell T a S f k) (f + k) (nI ((tnights T hm0 (k + 1)).1 2 a)).toInt64
theorem stell_s {T : xT} {a : Nat} {S : xS} {f : Nat} : ∀ k, (stell T a S f k).2 = S.2
  | 0 => rfl
  | k + 1 => by rw [stell, sput]; exact stell_s k
set_option maxHeartbeats 4000000 in
set_option maxRecDepth 100000 in
theorem l_X0_goesAsTold {E : xE} {h : xHp} {bF bn bt bs : Nat} {Tn Tt : xT} {S : xS} (hs : xFs h bF bn bt bs) (hT : tOK Tt) (a f m : Nat) (ha : a < 6) (hm8 : m ≤ 24) (hfm : f + m ≤ 24) (hn : Tt.2 4 + 100 < 2 ^ 30) : ∀ (n i : Nat), i ≤ m → m + 1 ≤ i + n → PW E mX0_goesAsTold (fun v h1 => v = some (.int (bI (tgo Tt a S.1 f (m - i) i))) ∧ FK E (SH E h bs S) bn bt Tn h1) 0 0 3 [some (.ref bF), some (.int (nI a)), some (.ref bs), some (.int (nI f)), some (.int (nI m)), some (.int (nI i))] [] (FH E (SH E h bs S) bn bt Tn (tnights Tt hm0 i)) := by
  have hf := fs_fo (E := E) (S := S) hs
  intro n
  induction n with
  | zero =>
    intro i h1 h2
    omega
  | succ n ih =>
    intro i h1 h2
    refine px_iload dX0_goesAsTold_3 rfl ?_
    refine px_iload dX0_goesAsTold_5 rfl ?_
    refine px_icmp_geN 49 dX0_goesAsTold_7 (by decide) (by omega) (by omega) (fun c7 => ?_) (fun c7 => ?_)
    · refine px_iconst (v := nI 1) dX0_goesAsTold_49 (by decide) ?_
      exact px_bret (b := true) dX0_goesAsTold_50 rfl rfl rfl rfl ⟨(by rw [show m - i = 0 by omega, tgo]), _, tnights_ok (hm := hm0) hT i (by omega), rfl⟩
    · refine px_aload_n dX0_goesAsTold_10 rfl ?_
      refine px_get xk_X0 0 dX0_goesAsTold_11 (Or.inl fl_X0_12) (fo_get hf) (by decide) rfl ?_
      refine px_iconst (v := nI 0) dX0_goesAsTold_14 (by decide) ?_
      refine px_vv (M2 := mX4_pass) (c_X4_pass (tnights_ok (hm := hm0) hT i (by omega)) (nI 0) hm0 (fun i hi => hbit_0 i hi)) mw_X4_pass wm_X4_pass we_X4_pass (Or.inr ⟨_, ml_X0_26⟩) dX0_goesAsTold_15 (TH_obj) rfl (by decide) rfl rfl (Nat.le_of_ble_eq_true rfl) ⟨rfl, rfl⟩ ?_
      have hk1 := tnights_ok (hm := hm0) hT (i + 1) (by omega)
      refine px_aload_n dX0_goesAsTold_18 rfl ?_
      refine px_get xk_X2 0 dX0_goesAsTold_19 (Or.inr ⟨_, fl_X0_83⟩) (fs_obj hs) (by decide) rfl ?_
      refine px_iload_n dX0_goesAsTold_22 rfl ?_
      refine px_iload dX0_goesAsTold_23 rfl ?_
      refine px_iaddN dX0_goesAsTold_25 ?_
      refine px_lald dX0_goesAsTold_26 (fs_arr hs) (vp_in_nI (show f + i < 24 by omega) (by decide)) ?_
      rw [nI_clamp (show f + i < 2 ^ 31 by omega)]
      refine px_aload_n dX0_goesAsTold_27 rfl ?_
      refine px_get xk_X0 0 dX0_goesAsTold_28 (Or.inl fl_X0_12) (fo_get hf) (by decide) rfl ?_
      refine px_tR 2 dX0_goesAsTold_31 (Or.inr ⟨_, fl_X0_80⟩) (by decide) ?_
      refine px_iload_n dX0_goesAsTold_34 rfl ?_
      refine px_tL 2 dX0_goesAsTold_35 (by decide) (by show _ < 6; omega) ?_
      refine px_i2l dX0_goesAsTold_36 ?_
      refine px_lcmp dX0_goesAsTold_37 ?_
      refine px_if_eq 43 dX0_goesAsTold_38 (by decide) (fun c38 => ?_) (fun c38 => ?_)
      · refine px_inc_5 dX0_goesAsTold_43 rfl (nI_1 _) (by decide) rfl ?_
        refine px_goto 3 dX0_goesAsTold_46 (by decide) ?_
        have e38 : S.1 (f + i) = (nI ((tnights Tt hm0 (i + 1)).1 2 a)).toInt64 := (lg_cmp_eq _ _).mp c38
        rw [show m - i = (m - (i + 1)) + 1 by omega, tgo, if_pos e38]
        exact ih (i + 1) (by omega) (by omega)
      · refine px_iconst (v := nI 0) dX0_goesAsTold_41 (by decide) ?_
        have e38 : ¬ S.1 (f + i) = (nI ((tnights Tt hm0 (i + 1)).1 2 a)).toInt64 := fun q => c38 ((lg_cmp_eq _ _).mpr q)
        exact px_bret (b := false) dX0_goesAsTold_42 rfl rfl rfl rfl ⟨(by rw [show m - i = (m - (i + 1)) + 1 by omega, tgo, if_neg e38]), _, hk1, rfl⟩
set_option maxHeartbeats 4000000 in
set_option maxRecDepth 100000 in
theorem c_X0_goesAsTold {E : xE} {h : xHp} {bF bn bt bs : Nat} {Tn Tt : xT} {S : xS} (hs : xFs h bF bn bt bs) (hT : tOK Tt) (a f m : Nat) (ha : a < 6) (hm8 : m ≤ 24) (hfm : f + m ≤ 24) (hn : Tt.2 4 + 100 < 2 ^ 30) : PMF E mX0_goesAsTold [.ref bF, .int (nI a), .ref bs, .int (nI f), .int (nI m)] (FH E (SH E h bs S) bn bt Tn Tt) (bI (tgo Tt a S.1 f m 0)) (SH E h bs S) bn bt Tn := by
  refine pm_of [some (.ref bF), some (.int (nI a)), some (.ref bs), some (.int (nI f)), some (.int (nI m)), none] (by decide +kernel) (Nat.le_of_ble_eq_true rfl) rfl ?_
  refine px_iconst (v := nI 0) dX0_goesAsTold_0 (by decide) ?_
  refine px_ist_5 dX0_goesAsTold_1 (by decide) rfl ?_
  exact l_X0_goesAsTold hs hT a f m ha hm8 hfm hn (m + 1) 0 (Nat.zero_le _) (by omega)
set_option maxHeartbeats 4000000 in
set_option maxRecDepth 100000 in
theorem l_X0_kindsTold {E : xE} {h : xHp} {bF bn bt bs : Nat} {Tn : xT} {S : xS} (hs : xFs h bF bn bt bs) (hOK : tOK Tn) (a f m : Nat) (ha : a < 6) (hm8 : m ≤ 24) (hfm : f + m ≤ 24) (hn : Tn.2 4 + 100 < 2 ^ 30) : ∀ (n i : Nat) (Tt : xT), tOK Tt → i ≤ 5 → 6 ≤ i + n → PW E mX0_kindsTold (fun v h1 => v = some (.int (nI (tkin Tn a S.1 f m 5))) ∧ FK E (SH E h bs S) bn bt Tn h1) 0 0 6 [some (.ref bF), some (.ref bn), some (.int (nI a)), some (.ref bs), some (.int (nI f)), some (.int (nI m)), some (.int (nI (tkin Tn a S.1 f m i))), some (.int (nI i))] [] (FH E (SH E h bs S) bn bt Tn Tt) := by
  have hf := fs_fo (E := E) (S := S) hs
  intro n
  induction n with
  | zero =>
    intro i Tt hT h1 h2
    omega
  | succ n ih =>
    intro i Tt hT h1 h2
    refine px_iload dX0_kindsTold_6 rfl ?_
    refine px_iconst (v := nI 5) dX0_kindsTold_8 (by decide) ?_
    refine px_icmp_geN 59 dX0_kindsTold_9 (by decide) (by omega) (by omega) (fun c9 => ?_) (fun c9 => ?_)
    · refine px_iload dX0_kindsTold_59 rfl ?_
      have hi : i = 5 := by omega
      subst hi
      exact px_iret dX0_kindsTold_61 rfl rfl rfl ⟨rfl, Tt, hT, rfl⟩
    · refine px_aload_n dX0_kindsTold_12 rfl ?_
      refine px_get xk_X0 0 dX0_kindsTold_13 (Or.inl fl_X0_12) (fo_get hf) (by decide) rfl ?_
      refine px_aload_n dX0_kindsTold_16 rfl ?_
      refine px_vv (M2 := mX4_become) (c_X4_become hf.2.2.2) mw_X4_become wm_X4_become we_X4_become (Or.inr ⟨_, ml_X0_18⟩) dX0_kindsTold_17 (TH_obj) rfl (by decide) rfl rfl (Nat.le_of_ble_eq_true rfl) ⟨rfl, rfl⟩ ?_
      refine px_aload_n dX0_kindsTold_20 rfl ?_
      refine px_get xk_X0 0 dX0_kindsTold_21 (Or.inl fl_X0_12) (fo_get hf) (by decide) rfl ?_
      refine px_tR 0 dX0_kindsTold_24 (Or.inr ⟨_, fl_X0_73⟩) (by decide) ?_
      refine px_iload_n dX0_kindsTold_27 rfl ?_
      refine px_iload dX0_kindsTold_28 rfl ?_
      refine px_tW 0 dX0_kindsTold_30 (by decide) (by show _ < 6; omega) ?_
      refine px_aload_n dX0_kindsTold_31 rfl ?_
      refine px_iload_n dX0_kindsTold_32 rfl ?_
      refine px_aload_n dX0_kindsTold_33 rfl ?_
      refine px_iload dX0_kindsTold_34 rfl ?_
      refine px_iload dX0_kindsTold_36 rfl ?_
      refine px_vf (M2 := mX0_goesAsTold) (c_X0_goesAsTold hs (tSA_ok (j := 0) (i := a) (v := i) hOK (by omega)) a f m ha hm8 hfm hn) mw_X0_goesAsTold wm_X0_goesAsTold we_X0_goesAsTold (Or.inl ml_X0_76) dX0_kindsTold_38 (fo_get hf) rfl (by decide) rfl rfl (Nat.le_of_ble_eq_true rfl) ⟨rfl, rfl⟩ (fun T1 hT1 => ?_)
      refine px_if_eqB 53 dX0_kindsTold_41 (by decide) (fun c41 => ?_) (fun c41 => ?_)
      · refine px_inc_7 dX0_kindsTold_53 rfl (nI_1 _) (by decide) rfl ?_
        refine px_goto 6 dX0_kindsTold_56 (by decide) ?_
        refine px_eq (lo2 := [some (.ref bF), some (.ref bn), some (.int (nI a)), some (.ref bs), some (.int (nI f)), some (.int (nI m)), some (.int (nI (tkin Tn a S.1 f m (i + 1)))), some (.int (nI (i + 1)))]) ?_ rfl rfl (ih (i + 1) T1 hT1 (by omega) (by omega))
        rw [tkin, if_neg (by simp [c41])]
      · refine px_iload dX0_kindsTold_44 rfl ?_
        refine px_iconst (v := nI 1) dX0_kindsTold_46 (by decide) ?_
        refine px_iload dX0_kindsTold_47 rfl ?_
        refine px_ishl1 dX0_kindsTold_49 (by omega) ?_
        refine px_iorN dX0_kindsTold_50 ?_
        refine px_ist_6 dX0_kindsTold_51 (by decide) rfl ?_
        refine px_inc_7 dX0_kindsTold_53 rfl (nI_1 _) (by decide) rfl ?_
        refine px_goto 6 dX0_kindsTold_56 (by decide) ?_
        refine px_eq (lo2 := [some (.ref bF), some (.ref bn), some (.int (nI a)), some (.ref bs), some (.int (nI f)), some (.int (nI m)), some (.int (nI (tkin Tn a S.1 f m (i + 1)))), some (.int (nI (i + 1)))]) ?_ rfl rfl (ih (i + 1) T1 hT1 (by omega) (by omega))
        rw [tkin, if_pos c41]
set_option maxHeartbeats 4000000 in
set_option maxRecDepth 100000 in
theorem c_X0_kindsTold {E : xE} {h : xHp} {bF bn bt bs : Nat} {Tn Tt : xT} {S : xS} (hs : xFs h bF bn bt bs) (hOK : tOK Tn) (hT : tOK Tt) (a f m : Nat) (ha : a < 6) (hm8 : m ≤ 24) (hfm : f + m ≤ 24) (hn : Tn.2 4 + 100 < 2 ^ 30) : PMF E mX0_kindsTold [.ref bF, .ref bn, .int (nI a), .ref bs, .int (nI f), .int (nI m)] (FH E (SH E h bs S) bn bt Tn Tt) (nI (tkin Tn a S.1 f m 5)) (SH E h bs S) bn bt Tn := by
  refine pm_of [some (.ref bF), some (.ref bn), some (.int (nI a)), some (.ref bs), some (.int (nI f)), some (.int (nI m)), none, none] (by decide +kernel) (Nat.le_of_ble_eq_true rfl) rfl ?_
  refine px_iconst (v := nI 0) dX0_kindsTold_0 (by decide) ?_
  refine px_ist_6 dX0_kindsTold_1 (by decide) rfl ?_
  refine px_iconst (v := nI 0) dX0_kindsTold_3 (by decide) ?_
  refine px_ist_7 dX0_kindsTold_4 (by decide) rfl ?_
  exact l_X0_kindsTold hs hOK a f m ha hm8 hfm hn 6 0 Tt hT (Nat.zero_le _) (by omega)
def tnl (T : xT) (a : Nat) (its : Nat → Int64) (f m : Nat) (ls : Bool) : Int32 := if ls then oI (ffrom (fun v => tgo (tSA T 2 a v) a its f m 0) 100 0) else nI (tnum T a its f m 100)
set_option maxHeartbeats 4000000 in
set_option maxRecDepth 100000 in
theorem l_X0_numbersTold {E : xE} {h : xHp} {bF bn bt bs : Nat} {Tn : xT} {S : xS} (hs : xFs h bF bn bt bs) (hOK : tOK Tn) (a f m : Nat) (ha : a < 6) (hm8 : m ≤ 24) (hfm : f + m ≤ 24) (ls : Bool) (hn : Tn.2 4 + 100 < 2 ^ 30) : ∀ (n i : Nat) (Tt : xT), tOK Tt → i ≤ 100 → 101 ≤ i + n → (ls = true → ffrom (fun v => tgo (tSA Tn 2 a v) a S.1 f m 0) 100 0 = ffrom (fun v => tgo (tSA Tn 2 a v) a S.1 f m 0) (100 - i) i) → PW E mX0_numbersTold (fun v h1 => v = some (.int (tnl Tn a S.1 f m ls)) ∧ FK E (SH E h bs S) bn bt Tn h1) 0 0 6 [some (.ref bF), some (.ref bn), some (.int (nI a)), some (.ref bs), some (.int (nI f)), some (.int (nI m)), some (.int (bI ls)), some (.int (nI (tnum Tn a S.1 f m i))), some (.int (nI i))] [] (FH E (SH E h bs S) bn bt Tn Tt) := by
  have hf := fs_fo (E := E) (S := S) hs
  intro n
  induction n with
  | zero =>
    intro i Tt hT h1 h2 hfr
    omega
  | succ n ih =>
    intro i Tt hT h1 h2 hfr
    refine px_iload dX0_numbersTold_6 rfl ?_
    refine px_bipush (v := nI 99) dX0_numbersTold_8 (by decide) ?_
    refine px_icmp_gtN 62 dX0_numbersTold_10 (by decide) (by omega) (by omega) (fun c10 => ?_) (fun c10 => ?_)
    · refine px_iload dX0_numbersTold_62 rfl ?_
      refine px_if_eqB 72 dX0_numbersTold_64 (by decide) (fun c64 => ?_) (fun c64 => ?_)
      · refine px_iload dX0_numbersTold_72 rfl ?_
        have hi : i = 100 := by omega
        subst hi
        exact px_iret dX0_numbersTold_74 rfl rfl rfl ⟨(by rw [tnl, if_neg (by simp [c64])]), Tt, hT, rfl⟩
      · refine px_bipush (v := -4) dX0_numbersTold_67 (by decide) ?_
        refine px_goto 74 dX0_numbersTold_69 (by decide) ?_
        have hi : i = 100 := by omega
        subst hi
        exact px_iret dX0_numbersTold_74 rfl rfl rfl ⟨(by rw [tnl, if_pos c64, hfr c64]; rfl), Tt, hT, rfl⟩
    · refine px_aload_n dX0_numbersTold_13 rfl ?_
      refine px_get xk_X0 0 dX0_numbersTold_14 (Or.inl fl_X0_12) (fo_get hf) (by decide) rfl ?_
      refine px_aload_n dX0_numbersTold_17 rfl ?_
      refine px_vv (M2 := mX4_become) (c_X4_become hf.2.2.2) mw_X4_become wm_X4_become we_X4_become (Or.inr ⟨_, ml_X0_18⟩) dX0_numbersTold_18 (TH_obj) rfl (by decide) rfl rfl (Nat.le_of_ble_eq_true rfl) ⟨rfl, rfl⟩ ?_
      refine px_aload_n dX0_numbersTold_21 rfl ?_
      refine px_get xk_X0 0 dX0_numbersTold_22 (Or.inl fl_X0_12) (fo_get hf) (by decide) rfl ?_
      refine px_tR 2 dX0_numbersTold_25 (Or.inr ⟨_, fl_X0_80⟩) (by decide) ?_
      refine px_iload_n dX0_numbersTold_28 rfl ?_
      refine px_iload dX0_numbersTold_29 rfl ?_
      refine px_tW 2 dX0_numbersTold_31 (by decide) (by show _ < 6; omega) ?_
      refine px_aload_n dX0_numbersTold_32 rfl ?_
      refine px_iload_n dX0_numbersTold_33 rfl ?_
      refine px_aload_n dX0_numbersTold_34 rfl ?_
      refine px_iload dX0_numbersTold_35 rfl ?_
      refine px_iload dX0_numbersTold_37 rfl ?_
      refine px_vf (M2 := mX0_goesAsTold) (c_X0_goesAsTold hs (tSA_ok (j := 2) (i := a) (v := i) hOK (by omega)) a f m ha hm8 hfm hn) mw_X0_goesAsTold wm_X0_goesAsTold we_X0_goesAsTold (Or.inl ml_X0_76) dX0_numbersTold_39 (fo_get hf) rfl (by decide) rfl rfl (Nat.le_of_ble_eq_true rfl) ⟨rfl, rfl⟩ (fun T1 hT1 => ?_)
      refine px_if_eqB 56 dX0_numbersTold_42 (by decide) (fun c42 => ?_) (fun c42 => ?_)
      · refine px_inc_8 dX0_numbersTold_56 rfl (nI_1 _) (by decide) rfl ?_
        refine px_goto 6 dX0_numbersTold_59 (by decide) ?_
        refine px_eq (lo2 := [some (.ref bF), some (.ref bn), some (.int (nI a)), some (.ref bs), some (.int (nI f)), some (.int (nI m)), some (.int (bI ls)), some (.int (nI (tnum Tn a S.1 f m (i + 1)))), some (.int (nI (i + 1)))]) ?_ rfl rfl (ih (i + 1) T1 hT1 (by omega) (by omega) (fun hls => by have := hfr hls; rw [show 100 - i = (99 - i) + 1 by omega, ffrom_n (p := (fun v => tgo (tSA Tn 2 a v) a S.1 f m 0)) c42] at this; rw [this, show 100 - (i + 1) = 99 - i by omega]))
        rw [tnum, if_neg (by simp [c42])]
      · refine px_iload dX0_numbersTold_45 rfl ?_
        refine px_if_eqB 53 dX0_numbersTold_47 (by decide) (fun c47 => ?_) (fun c47 => ?_)
        · refine px_inc_7 dX0_numbersTold_53 rfl (nI_1 _) (by decide) rfl ?_
          refine px_inc_8 dX0_numbersTold_56 rfl (nI_1 _) (by decide) rfl ?_
          refine px_goto 6 dX0_numbersTold_59 (by decide) ?_
          refine px_eq (lo2 := [some (.ref bF), some (.ref bn), some (.int (nI a)), some (.ref bs), some (.int (nI f)), some (.int (nI m)), some (.int (bI ls)), some (.int (nI (tnum Tn a S.1 f m (i + 1)))), some (.int (nI (i + 1)))]) ?_ rfl rfl (ih (i + 1) T1 hT1 (by omega) (by omega) (fun hls => by rw [c47] at hls; cases hls))
          rw [tnum, if_pos c42]
        · refine px_iload dX0_numbersTold_50 rfl ?_
          exact px_iret dX0_numbersTold_52 rfl rfl rfl ⟨(by rw [tnl, if_pos c47, hfr c47, show 100 - i = (99 - i) + 1 by omega, ffrom_y (p := (fun v => tgo (tSA Tn 2 a v) a S.1 f m 0)) c42]; rfl), T1, hT1, rfl⟩
set_option maxHeartbeats 4000000 in
set_option maxRecDepth 100000 in
theorem c_X0_numbersTold {E : xE} {h : xHp} {bF bn bt bs : Nat} {Tn Tt : xT} {S : xS} (hs : xFs h bF bn bt bs) (hOK : tOK Tn) (hT : tOK Tt) (a f m : Nat) (ha : a < 6) (hm8 : m ≤ 24) (hfm : f + m ≤ 24) (ls : Bool) (hn : Tn.2 4 + 100 < 2 ^ 30) : PMF E mX0_numbersTold [.ref bF, .ref bn, .int (nI a), .ref bs, .int (nI f), .int (nI m), .int (bI ls)] (FH E (SH E h bs S) bn bt Tn Tt) (tnl Tn a S.1 f m ls) (SH E h bs S) bn bt Tn := by
  refine pm_of [some (.ref bF), some (.ref bn), some (.int (nI a)), some (.ref bs), some (.int (nI f)), some (.int (nI m)), some (.int (bI ls)), none, none] (by decide +kernel) (Nat.le_of_ble_eq_true rfl) rfl ?_
  refine px_iconst (v := nI 0) dX0_numbersTold_0 (by decide) ?_
  refine px_ist_7 dX0_numbersTold_1 (by decide) rfl ?_
  refine px_iconst (v := nI 0) dX0_numbersTold_3 (by decide) ?_
  refine px_ist_8 dX0_numbersTold_4 (by decide) rfl ?_
  exact l_X0_numbersTold hs hOK a f m ha hm8 hfm ls hn 101 0 Tt hT (Nat.zero_le _) (by omega) (fun _ => rfl)
set_option maxHeartbeats 4000000 in
set_option maxRecDepth 100000 in
theorem l_X0_tell {E : xE} {h : xHp} {bF bn bt bs : Nat} {Tn : xT} {S : xS} (hs : xFs h bF bn bt bs) (hOK : tOK Tn) (a f m : Nat) (ha : a < 6) (hm8 : m ≤ 24) (hfm : f + m ≤ 24) (l : Nat) (hl : l < 4) (hL : S.2.1 = nI l) (hn : Tn.2 4 + 100 < 2 ^ 30) : ∀ (n i : Nat), i ≤ m → m + 1 ≤ i + n → PW E mX0_tell (fun v h1 => v = none ∧ ∃ T1 : xT, tOK T1 ∧ h1 = FH E (SH E h bs (stell Tn a S f m)) bn bt Tn T1) 0 0 11 [some (.ref bF), some (.ref bn), some (.int (nI a)), some (.ref bs), some (.int (nI f)), some (.int (nI m)), some (.int (nI i))] [] (FH E (SH E h bs (stell Tn a S f i)) bn bt Tn (tnights Tn hm0 i)) := by
  intro n
  induction n with
  | zero =>
    intro i h1 h2
    omega
  | succ n ih =>
    intro i h1 h2
    refine px_iload dX0_tell_11 rfl ?_
    refine px_iload dX0_tell_13 rfl ?_
    refine px_icmp_geN 51 dX0_tell_15 (by decide) (by omega) (by omega) (fun c15 => ?_) (fun c15 => ?_)
    · have hi : i = m := by omega
      subst hi
      exact px_vret dX0_tell_51 rfl rfl rfl ⟨rfl, _, tnights_ok (hm := hm0) hOK _ (by omega), rfl⟩
    · have hf := fs_fo (E := E) (S := stell Tn a S f i) hs
      have hk1 := tnights_ok (hm := hm0) hOK (i + 1) (by omega)
      refine px_aload_n dX0_tell_18 rfl ?_
      refine px_get xk_X0 0 dX0_tell_19 (Or.inl fl_X0_12) (fo_get hf) (by decide) rfl ?_
      refine px_iconst (v := nI 0) dX0_tell_22 (by decide) ?_
      refine px_vv (M2 := mX4_pass) (c_X4_pass (tnights_ok (hm := hm0) hOK i (by omega)) (nI 0) hm0 (fun i hi => hbit_0 i hi)) mw_X4_pass wm_X4_pass we_X4_pass (Or.inr ⟨_, ml_X0_26⟩) dX0_tell_23 (TH_obj) rfl (by decide) rfl rfl (Nat.le_of_ble_eq_true rfl) ⟨rfl, rfl⟩ ?_
      refine px_aload_n dX0_tell_26 rfl ?_
      refine px_iload dX0_tell_27 rfl ?_
      refine px_iload dX0_tell_29 rfl ?_
      refine px_iaddN dX0_tell_31 ?_
      refine px_aload_n dX0_tell_32 rfl ?_
      refine px_get xk_X0 0 dX0_tell_33 (Or.inl fl_X0_12) (fo_get hf) (by decide) rfl ?_
      refine px_tR 2 dX0_tell_36 (Or.inr ⟨_, fl_X0_80⟩) (by decide) ?_
      refine px_iload_n dX0_tell_39 rfl ?_
      refine px_tL 2 dX0_tell_40 (by decide) (by show _ < 6; omega) ?_
      refine px_i2l dX0_tell_41 ?_
      refine px_heap (fs_swap hs) ?_
      refine px_vv (M2 := mX2_put) (c_X2_put l (f + i) _ hl (by rw [stell_s]; exact hL) (by omega)) mw_X2_put wm_X2_put we_X2_put (Or.inr ⟨_, ml_X0_89⟩) dX0_tell_42 (SH_obj) rfl (by decide) rfl rfl (Nat.le_of_ble_eq_true rfl) ⟨rfl, rfl⟩ ?_
      refine px_inc_6 dX0_tell_45 rfl (nI_1 _) (by decide) rfl ?_
      refine px_goto 11 dX0_tell_48 (by decide) ?_
      refine px_heap (h2 := FH E (SH E h bs (stell Tn a S f (i + 1))) bn bt Tn (tnights Tn hm0 (i + 1))) ?_ (ih (i + 1) (by omega) (by omega))
      rw [fs_swap hs]
      rfl
set_option maxHeartbeats 4000000 in
set_option maxRecDepth 100000 in
theorem c_X0_tell {E : xE} {h : xHp} {bF bn bt bs : Nat} {Tn Tt : xT} {S : xS} (hs : xFs h bF bn bt bs) (hOK : tOK Tn) (a f m : Nat) (ha : a < 6) (hm8 : m ≤ 24) (hfm : f + m ≤ 24) (l : Nat) (hl : l < 4) (hL : S.2.1 = nI l) (hn : Tn.2 4 + 100 < 2 ^ 30) : PMet E mX0_tell [.ref bF, .ref bn, .int (nI a), .ref bs, .int (nI f), .int (nI m)] (FH E (SH E h bs S) bn bt Tn Tt) (fun v h1 => v = none ∧ ∃ T1 : xT, tOK T1 ∧ h1 = FH E (SH E h bs (stell Tn a S f m)) bn bt Tn T1) := by
  have hf := fs_fo (E := E) (S := S) hs
  refine pm_of [some (.ref bF), some (.ref bn), some (.int (nI a)), some (.ref bs), some (.int (nI f)), some (.int (nI m)), none] (by decide +kernel) (Nat.le_of_ble_eq_true rfl) rfl ?_
  refine px_aload_n dX0_tell_0 rfl ?_
  refine px_get xk_X0 0 dX0_tell_1 (Or.inl fl_X0_12) (fo_get hf) (by decide) rfl ?_
  refine px_aload_n dX0_tell_4 rfl ?_
  refine px_vv (M2 := mX4_become) (c_X4_become hf.2.2.2) mw_X4_become wm_X4_become we_X4_become (Or.inr ⟨_, ml_X0_18⟩) dX0_tell_5 (TH_obj) rfl (by decide) rfl rfl (Nat.le_of_ble_eq_true rfl) ⟨rfl, rfl⟩ ?_
  refine px_iconst (v := nI 0) dX0_tell_8 (by decide) ?_
  refine px_ist_6 dX0_tell_9 (by decide) rfl ?_
  exact l_X0_tell hs hOK a f m ha hm8 hfm l hl hL hn (m + 1) 0 (Nat.zero_le _) (by omega)
