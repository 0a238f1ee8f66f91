def pCv (T : xT) (a k s : Nat) : Bool := ((tnights (tSS T 2 (ndif (T.2 2) s)) hm0 k).2 3).testBit a
def tcov (T : xT) (a k oth : Nat) : Nat → Option Nat
  | 0 => none
  | s + 1 => if ((match tcov T a k oth s with | none => true | some b => decide (bc s < bc b)) && decide (ndif s oth = 0)) && pCv T a k s then some s else tcov T a k oth s
theorem tcov_y {T : xT} {a k oth s : Nat} (h1 : tcov T a k oth s = none ∨ ∃ b, tcov T a k oth s = some b ∧ bc s < bc b) (h2 : ndif s oth = 0) (h3 : pCv T a k s = true) : tcov T a k oth (s + 1) = some s := by
  rw [tcov]
  rcases h1 with h1 | ⟨b, h1, h4⟩
  · simp [h1, h2, h3]
  · simp [h1, h2, h3, h4]
theorem tcov_n {T : xT} {a k oth s : Nat} (h : (∃ b, tcov T a k oth s = some b ∧ bc b ≤ bc s) ∨ ndif s oth ≠ 0 ∨ pCv T a k s = false) : tcov T a k oth (s + 1) = tcov T a k oth s := by
  rw [tcov]
  rcases h with ⟨b, h1, h4⟩ | h | h
  · simp [h1, Nat.not_lt.mpr h4]
  · simp [h]
  · simp [h]
theorem tcov_lt {T : xT} {a k oth : Nat} : ∀ {s b : Nat}, tcov T a k oth s = some b → b < s
  | 0, _, h => by cases h
  | s + 1, b, h => by
    rw [tcov] at h
    by_cases hc : (((match tcov T a k oth s with | none => true | some b => decide (bc s < bc b)) && decide (ndif s oth = 0)) && pCv T a k s) = true
    · rw [if_pos hc] at h
      cases h; omega
    · rw [if_neg hc] at h
      have := tcov_lt h; omega
def dI : Nat → Int32
  | 0 => -1
  | j + 1 => nI j
theorem dI_dec (j : Nat) : nI j + Int32.ofInt (-1) = dI j := by
  cases j with
  | zero => decide
  | succ j => exact pk_m1 j
def pLo (T : xT) (k v : Nat) : Bool := decide ((tnights (tSS T 5 v) hm0 k).2 3 = 2 ^ ((tnights (tSS T 5 v) hm0 k).2 0) - 1)
def pCa (T : xT) (a k v : Nat) : Bool := ((tnights (tSA T 3 a v) hm0 k).2 3).testBit a
def tspr (T : xT) (k : Nat) : Nat → Option Nat
  | 0 => none
  | t + 1 => match tspr T k t with
    | none => some t
    | some b => if twout T k b < twout T k t then some t else some b
def mI (T : xT) (k : Nat) : Option Nat → Int32
  | none => -1
  | some b => nI (twout T k b)
theorem nI_nm1 {a : Nat} (ha : a < 2 ^ 31) : ¬ nI a ≤ (-1) := by
  intro h
  have h1 := Int32.le_iff_toInt_le.mp h
  rw [nI_toInt ha] at h1
  have e : (-1 : Int32).toInt = -1 := by decide
  omega
theorem tspr_lt {T : xT} {k : Nat} : ∀ {t b : Nat}, tspr T k t = some b → b < t
  | 0, _, h => by cases h
  | t + 1, b, h => by
    rw [tspr] at h
    cases hv : tspr T k t with
    | none => rw [hv] at h; cases h; omega
    | some c =>
      rw [hv] at h
      have := tspr_lt hv
      by_cases hc : twout T k c < twout T k t
      · simp only [if_pos hc] at h; cases h; omega
      · simp only [if_neg hc] at h; cases h; omega
theorem twout_le (T : xT) (k t : Nat) : twout T k t ≤ 6 := bc_6 _
set_option maxHeartbeats 4000000 in
set_option maxRecDepth 100000 in
theorem l_X0_leastCover {E : xE} {h : xHp} {bF bn bt : Nat} {Tn : xT} (hf : xFo h bF bn bt) (hOK : tOK Tn) (a k oth : Nat) (ha : a < 6) (hk : k ≤ 40) (ho : oth < 64) (hn : Tn.2 4 + 100 < 2 ^ 30) : ∀ (n i : Nat) (Tt : xT), tOK Tt → i ≤ 64 → 65 ≤ i + n → PW E mX0_leastCover (fun v h1 => v = some (.int (oI (tcov Tn a k oth 64))) ∧ FK E h bn bt Tn h1) 0 0 19 [some (.ref bF), some (.ref bn), some (.int (nI a)), some (.int (nI k)), some (.int (nI oth)), some (.int (oI (tcov Tn a k oth i))), some (.int (nI i)), none] [] (FH E h bn bt Tn Tt) := by
  intro n
  induction n with
  | zero =>
    intro i Tt hT h1 h2
    omega
  | succ n ih =>
    intro i Tt hT h1 h2
    refine px_iload dX0_leastCover_19 rfl ?_
    refine px_bipush (v := nI 64) dX0_leastCover_21 (by decide) ?_
    refine px_icmp_geN 123 dX0_leastCover_23 (by decide) (by omega) (by omega) (fun c23 => ?_) (fun c23 => ?_)
    · refine px_iload dX0_leastCover_123 rfl ?_
      have hi : i = 64 := by omega
      subst hi
      exact px_iret dX0_leastCover_125 rfl rfl rfl ⟨rfl, Tt, hT, rfl⟩
    · refine px_iload dX0_leastCover_26 rfl ?_
      rcases hv : tcov Tn a k oth i with _ | bb
      · refine px_topi (show oI none = -4 from rfl) ?_
        refine px_if_lt 44 dX0_leastCover_28 (by decide) (fun _ => ?_) (fun z => absurd z (by decide))
        refine px_iconst (v := nI 1) dX0_leastCover_44 (by decide) ?_
        refine px_goto 49 dX0_leastCover_45 (by decide) ?_
        refine px_ist_7 dX0_leastCover_49 (by decide) rfl ?_
        refine px_iload dX0_leastCover_51 rfl ?_
        refine px_if_eq 117 dX0_leastCover_53 (by decide) (fun z => absurd z (by decide)) (fun _ => ?_)
        refine px_iload dX0_leastCover_56 rfl ?_
        refine px_iload dX0_leastCover_58 rfl ?_
        refine px_iconst (v := -1) dX0_leastCover_60 (by decide) ?_
        refine px_ixor dX0_leastCover_61 ?_
        refine px_iand dX0_leastCover_62 (px_topi (nx_dif _ _) ?_)
        have hnd : ndif i oth < 2 ^ 6 := ndif_lt (by omega)
        refine px_if_eqN 69 dX0_leastCover_63 (by decide) (by omega) (fun c63 => ?_) (fun c63 => ?_)
        · refine px_aload_n dX0_leastCover_69 rfl ?_
          refine px_get xk_X0 0 dX0_leastCover_70 (Or.inl fl_X0_12) (fo_get hf) (by decide) rfl ?_
          refine px_aload_n dX0_leastCover_73 rfl ?_
          refine px_vv (M2 := mX4_become) (c_X4_become hf.2.2.2) mw_X4_become wm_X4_become we_X4_become (Or.inr ⟨_, ml_X0_18⟩) dX0_leastCover_74 (TH_obj) rfl (by decide) rfl rfl (Nat.le_of_ble_eq_true rfl) ⟨rfl, rfl⟩ ?_
          have hok0 : tOK (tSS Tn 2 (ndif (Tn.2 2) i)) := tSS_ok hOK (Or.inr (Or.inr (Or.inl ⟨rfl, ndif_lt (n := 6) hOK.1.2.2.1⟩)))
          have hok1 := tnights_ok (hm := hm0) hok0 k (by show Tn.2 4 + k < 2 ^ 30; omega)
          refine px_aload_n dX0_leastCover_77 rfl ?_
          refine px_get xk_X0 0 dX0_leastCover_78 (Or.inl fl_X0_12) (fo_get hf) (by decide) rfl ?_
          refine px_dup dX0_leastCover_81 rfl ?_
          refine px_tS 2 dX0_leastCover_82 (Or.inr ⟨_, fl_X0_46⟩) (by decide) ?_
          refine px_iload dX0_leastCover_85 rfl ?_
          refine px_iconst (v := -1) dX0_leastCover_87 (by decide) ?_
          refine px_ixor dX0_leastCover_88 ?_
          refine px_iand dX0_leastCover_89 (px_topi (nx_dif _ _) ?_)
          refine px_tP 2 dX0_leastCover_90 (Or.inr ⟨_, fl_X0_46⟩) (by decide) ?_
          refine px_aload_n dX0_leastCover_93 rfl ?_
          refine px_iload_n dX0_leastCover_94 rfl ?_
          refine px_iconst (v := nI 0) dX0_leastCover_95 (by decide) ?_
          refine px_vv (M2 := mX0_passNights) (c_X0_passNights hf hok0 k (by omega) (by show Tn.2 4 + k < 2 ^ 30; omega) (nI 0) hm0 (fun i hi => hbit_0 i hi)) mw_X0_passNights wm_X0_passNights we_X0_passNights (Or.inl ml_X0_22) dX0_leastCover_96 (fo_get hf) rfl (by decide) rfl rfl (Nat.le_of_ble_eq_true rfl) ⟨rfl, rfl⟩ ?_
          refine px_aload_n dX0_leastCover_99 rfl ?_
          refine px_get xk_X0 0 dX0_leastCover_100 (Or.inl fl_X0_12) (fo_get hf) (by decide) rfl ?_
          refine px_tS 3 dX0_leastCover_103 (Or.inr ⟨_, fl_X0_30⟩) (by decide) ?_
          refine px_iload_n dX0_leastCover_106 rfl ?_
          refine px_si (c_X5_has_n _ a (by have := hok1.1.2.2.2.1; omega) (by omega)) mw_X5_has wt_X5_has (Or.inr ⟨_, ml_X0_34⟩) dX0_leastCover_107 (by decide) rfl rfl (Nat.le_of_ble_eq_true rfl) ⟨rfl, rfl⟩ ?_
          refine px_if_eqB 117 dX0_leastCover_110 (by decide) (fun c110 => ?_) (fun c110 => ?_)
          · refine px_inc_6 dX0_leastCover_117 rfl (nI_1 _) (by decide) rfl ?_
            refine px_goto 19 dX0_leastCover_120 (by decide) ?_
            refine px_fg_7 ?_
            refine px_eq (lo2 := [some (.ref bF), some (.ref bn), some (.int (nI a)), some (.int (nI k)), some (.int (nI oth)), some (.int (oI (tcov Tn a k oth (i + 1)))), some (.int (nI (i + 1))), none]) ?_ rfl rfl (ih (i + 1) _ hok1 (by omega) (by omega))
            rw [tcov_n (Or.inr (Or.inr c110)), hv]
            try rfl
          · refine px_iload dX0_leastCover_113 rfl ?_
            refine px_ist_5 dX0_leastCover_115 (by decide) rfl ?_
            refine px_inc_6 dX0_leastCover_117 rfl (nI_1 _) (by decide) rfl ?_
            refine px_goto 19 dX0_leastCover_120 (by decide) ?_
            refine px_fg_7 ?_
            refine px_eq (lo2 := [some (.ref bF), some (.ref bn), some (.int (nI a)), some (.int (nI k)), some (.int (nI oth)), some (.int (oI (tcov Tn a k oth (i + 1)))), some (.int (nI (i + 1))), none]) ?_ rfl rfl (ih (i + 1) _ hok1 (by omega) (by omega))
            rw [tcov_y (Or.inl hv) c63 c110]
            try rfl
        · refine px_goto 117 dX0_leastCover_66 (by decide) ?_
          refine px_inc_6 dX0_leastCover_117 rfl (nI_1 _) (by decide) rfl ?_
          refine px_goto 19 dX0_leastCover_120 (by decide) ?_
          refine px_fg_7 ?_
          refine px_eq (lo2 := [some (.ref bF), some (.ref bn), some (.int (nI a)), some (.int (nI k)), some (.int (nI oth)), some (.int (oI (tcov Tn a k oth (i + 1)))), some (.int (nI (i + 1))), none]) ?_ rfl rfl (ih (i + 1) Tt hT (by omega) (by omega))
          rw [tcov_n (Or.inr (Or.inl c63)), hv]
          try rfl
      · have hbb := tcov_lt hv
        refine px_topi (show oI (some bb) = nI bb from rfl) ?_
        refine px_if_ltN 44 dX0_leastCover_28 (by decide) (by omega) ?_
        refine px_iload dX0_leastCover_31 rfl ?_
        refine px_si (c_J6_bitCount_0f7a4 i (by omega)) mw_J6_bitCount_0f7a4 wt_J6_bitCount_0f7a4 (Or.inl ml_X0_49) dX0_leastCover_33 (by decide) rfl rfl (Nat.le_of_ble_eq_true rfl) ⟨rfl, rfl⟩ ?_
        refine px_iload dX0_leastCover_36 rfl ?_
        refine px_si (c_J6_bitCount_0f7a4 bb (by omega)) mw_J6_bitCount_0f7a4 wt_J6_bitCount_0f7a4 (Or.inl ml_X0_49) dX0_leastCover_38 (by decide) rfl rfl (Nat.le_of_ble_eq_true rfl) ⟨rfl, rfl⟩ ?_
        have hq1 := bc_6 i
        have hq2 := bc_6 bb
        refine px_icmp_geN 48 dX0_leastCover_41 (by decide) (by omega) (by omega) (fun c41 => ?_) (fun c41 => ?_)
        · refine px_iconst (v := nI 0) dX0_leastCover_48 (by decide) ?_
          refine px_ist_7 dX0_leastCover_49 (by decide) rfl ?_
          refine px_iload dX0_leastCover_51 rfl ?_
          refine px_if_eq 117 dX0_leastCover_53 (by decide) (fun _ => ?_) (fun z => absurd z (by decide))
          refine px_inc_6 dX0_leastCover_117 rfl (nI_1 _) (by decide) rfl ?_
          refine px_goto 19 dX0_leastCover_120 (by decide) ?_
          refine px_fg_7 ?_
          refine px_eq (lo2 := [some (.ref bF), some (.ref bn), some (.int (nI a)), some (.int (nI k)), some (.int (nI oth)), some (.int (oI (tcov Tn a k oth (i + 1)))), some (.int (nI (i + 1))), none]) ?_ rfl rfl (ih (i + 1) Tt hT (by omega) (by omega))
          rw [tcov_n (Or.inl ⟨bb, hv, c41⟩), hv]
          try rfl
        · refine px_iconst (v := nI 1) dX0_leastCover_44 (by decide) ?_
          refine px_goto 49 dX0_leastCover_45 (by decide) ?_
          refine px_ist_7 dX0_leastCover_49 (by decide) rfl ?_
          refine px_iload dX0_leastCover_51 rfl ?_
          refine px_if_eq 117 dX0_leastCover_53 (by decide) (fun z => absurd z (by decide)) (fun _ => ?_)
          refine px_iload dX0_leastCover_56 rfl ?_
          refine px_iload dX0_leastCover_58 rfl ?_
          refine px_iconst (v := -1) dX0_leastCover_60 (by decide) ?_
          refine px_ixor dX0_leastCover_61 ?_
          refine px_iand dX0_leastCover_62 (px_topi (nx_dif _ _) ?_)
          have hnd : ndif i oth < 2 ^ 6 := ndif_lt (by omega)
          refine px_if_eqN 69 dX0_leastCover_63 (by decide) (by omega) (fun c63 => ?_) (fun c63 => ?_)
          · refine px_aload_n dX0_leastCover_69 rfl ?_
            refine px_get xk_X0 0 dX0_leastCover_70 (Or.inl fl_X0_12) (fo_get hf) (by decide) rfl ?_
            refine px_aload_n dX0_leastCover_73 rfl ?_
            refine px_vv (M2 := mX4_become) (c_X4_become hf.2.2.2) mw_X4_become wm_X4_become we_X4_become (Or.inr ⟨_, ml_X0_18⟩) dX0_leastCover_74 (TH_obj) rfl (by decide) rfl rfl (Nat.le_of_ble_eq_true rfl) ⟨rfl, rfl⟩ ?_
            have hok0 : tOK (tSS Tn 2 (ndif (Tn.2 2) i)) := tSS_ok hOK (Or.inr (Or.inr (Or.inl ⟨rfl, ndif_lt (n := 6) hOK.1.2.2.1⟩)))
            have hok1 := tnights_ok (hm := hm0) hok0 k (by show Tn.2 4 + k < 2 ^ 30; omega)
            refine px_aload_n dX0_leastCover_77 rfl ?_
            refine px_get xk_X0 0 dX0_leastCover_78 (Or.inl fl_X0_12) (fo_get hf) (by decide) rfl ?_
            refine px_dup dX0_leastCover_81 rfl ?_
            refine px_tS 2 dX0_leastCover_82 (Or.inr ⟨_, fl_X0_46⟩) (by decide) ?_
            refine px_iload dX0_leastCover_85 rfl ?_
            refine px_iconst (v := -1) dX0_leastCover_87 (by decide) ?_
            refine px_ixor dX0_leastCover_88 ?_
            refine px_iand dX0_leastCover_89 (px_topi (nx_dif _ _) ?_)
            refine px_tP 2 dX0_leastCover_90 (Or.inr ⟨_, fl_X0_46⟩) (by decide) ?_
            refine px_aload_n dX0_leastCover_93 rfl ?_
            refine px_iload_n dX0_leastCover_94 rfl ?_
            refine px_iconst (v := nI 0) dX0_leastCover_95 (by decide) ?_
            refine px_vv (M2 := mX0_passNights) (c_X0_passNights hf hok0 k (by omega) (by show Tn.2 4 + k < 2 ^ 30; omega) (nI 0) hm0 (fun i hi => hbit_0 i hi)) mw_X0_passNights wm_X0_passNights we_X0_passNights (Or.inl ml_X0_22) dX0_leastCover_96 (fo_get hf) rfl (by decide) rfl rfl (Nat.le_of_ble_eq_true rfl) ⟨rfl, rfl⟩ ?_
            refine px_aload_n dX0_leastCover_99 rfl ?_
            refine px_get xk_X0 0 dX0_leastCover_100 (Or.inl fl_X0_12) (fo_get hf) (by decide) rfl ?_
            refine px_tS 3 dX0_leastCover_103 (Or.inr ⟨_, fl_X0_30⟩) (by decide) ?_
            refine px_iload_n dX0_leastCover_106 rfl ?_
            refine px_si (c_X5_has_n _ a (by have := hok1.1.2.2.2.1; omega) (by omega)) mw_X5_has wt_X5_has (Or.inr ⟨_, ml_X0_34⟩) dX0_leastCover_107 (by decide) rfl rfl (Nat.le_of_ble_eq_true rfl) ⟨rfl, rfl⟩ ?_
            refine px_if_eqB 117 dX0_leastCover_110 (by decide) (fun c110 => ?_) (fun c110 => ?_)
            · refine px_inc_6 dX0_leastCover_117 rfl (nI_1 _) (by decide) rfl ?_
              refine px_goto 19 dX0_leastCover_120 (by decide) ?_
              refine px_fg_7 ?_
              refine px_eq (lo2 := [some (.ref bF), some (.ref bn), some (.int (nI a)), some (.int (nI k)), some (.int (nI oth)), some (.int (oI (tcov Tn a k oth (i + 1)))), some (.int (nI (i + 1))), none]) ?_ rfl rfl (ih (i + 1) _ hok1 (by omega) (by omega))
              rw [tcov_n (Or.inr (Or.inr c110)), hv]
              try rfl
            · refine px_iload dX0_leastCover_113 rfl ?_
              refine px_ist_5 dX0_leastCover_115 (by decide) rfl ?_
              refine px_inc_6 dX0_leastCover_117 rfl (nI_1 _) (by decide) rfl ?_
              refine px_goto 19 dX0_leastCover_120 (by decide) ?_
              refine px_fg_7 ?_
              refine px_eq (lo2 := [some (.ref bF), some (.ref bn), some (.int (nI a)), some (.int (nI k)), some (.int (nI oth)), some (.int (oI (tcov Tn a k oth (i + 1)))), some (.int (nI (i + 1))), none]) ?_ rfl rfl (ih (i + 1) _ hok1 (by omega) (by omega))
              rw [tcov_y (Or.inr ⟨bb, hv, c41⟩) c63 c110]
              try rfl
          · refine px_goto 117 dX0_leastCover_66 (by decide) ?_
            refine px_inc_6 dX0_leastCover_117 rfl (nI_1 _) (by decide) rfl ?_
            refine px_goto 19 dX0_leastCover_120 (by decide) ?_
            refine px_fg_7 ?_
            refine px_eq (lo2 := [some (.ref bF), some (.ref bn), some (.int (nI a)), some (.int (nI k)), some (.int (nI oth)), some (.int (oI (tcov Tn a k oth (i + 1)))), some (.int (nI (i + 1))), none]) ?_ rfl rfl (ih (i + 1) Tt hT (by omega) (by omega))
            rw [tcov_n (Or.inr (Or.inl c63)), hv]
            try rfl
set_option maxHeartbeats 4000000 in
set_option maxRecDepth 100000 in
theorem c_X0_leastCover {E : xE} {h : xHp} {bF bn bt : Nat} {Tn Tt : xT} (hf : xFo h bF bn bt) (hOK : tOK Tn) (hT : tOK Tt) (a k : Nat) (ha : a < 6) (hk : k ≤ 40) (hn : Tn.2 4 + 100 < 2 ^ 30) : PMF E mX0_leastCover [.ref bF, .ref bn, .int (nI a), .int (nI k)] (FH E h bn bt Tn Tt) (oI (tcov Tn a k (ndif (Tn.2 2) (2 ^ a)) 64)) h bn bt Tn := by
  refine pm_of [some (.ref bF), some (.ref bn), some (.int (nI a)), some (.int (nI k)), none, none, none, none] (by decide +kernel) (Nat.le_of_ble_eq_true rfl) rfl ?_
  refine px_aload_n dX0_leastCover_0 rfl ?_
  refine px_tS2 2 dX0_leastCover_1 (Or.inr ⟨_, fl_X0_46⟩) hf.2.2.2 (by decide) ?_
  refine px_iconst (v := nI 1) dX0_leastCover_4 (by decide) ?_
  refine px_iload_n dX0_leastCover_5 rfl ?_
  refine px_ishl1 dX0_leastCover_6 (by omega) ?_
  refine px_iconst (v := -1) dX0_leastCover_7 (by decide) ?_
  refine px_ixor dX0_leastCover_8 ?_
  refine px_iand dX0_leastCover_9 (px_topi (nx_dif _ _) ?_)
  refine px_ist_4 dX0_leastCover_10 (by decide) rfl ?_
  refine px_bipush (v := -4) dX0_leastCover_12 (by decide) ?_
  refine px_ist_5 dX0_leastCover_14 (by decide) rfl ?_
  refine px_iconst (v := nI 0) dX0_leastCover_16 (by decide) ?_
  refine px_ist_6 dX0_leastCover_17 (by decide) rfl ?_
  exact l_X0_leastCover hf hOK a k (ndif (Tn.2 2) (2 ^ a)) ha hk (ndif_lt (n := 6) hOK.1.2.2.1) hn 65 0 Tt hT (Nat.zero_le _) (by omega)
set_option maxHeartbeats 4000000 in
set_option maxRecDepth 100000 in
theorem l_X0_greatestBar {E : xE} {h : xHp} {bF bn bt : Nat} {Tn : xT} (hf : xFo h bF bn bt) (hOK : tOK Tn) (k : Nat) (hk : k ≤ 40) (hn : Tn.2 4 + 100 < 2 ^ 30) : ∀ (j : Nat), j ≤ 100 → ∀ (Tt : xT), tOK Tt → PW E mX0_greatestBar (fun v h1 => v = some (.int (oI (fdown (pLo Tn k) j))) ∧ FK E h bn bt Tn h1) 0 0 3 [some (.ref bF), some (.ref bn), some (.int (nI k)), some (.int (dI j))] [] (FH E h bn bt Tn Tt) := by
  intro j
  induction j with
  | zero =>
    intro hj Tt hT
    refine px_eq (lo2 := [some (.ref bF), some (.ref bn), some (.int (nI k)), some (.int (-1))]) rfl rfl rfl ?_
    refine px_iload_n dX0_greatestBar_3 rfl ?_
    refine px_if_lt 54 dX0_greatestBar_4 (by decide) (fun _ => ?_) (fun z => absurd z (by decide))
    refine px_bipush (v := -4) dX0_greatestBar_54 (by decide) ?_
    exact px_iret dX0_greatestBar_56 rfl rfl rfl ⟨rfl, Tt, hT, rfl⟩
  | succ j ih =>
    intro hj Tt hT
    refine px_eq (lo2 := [some (.ref bF), some (.ref bn), some (.int (nI k)), some (.int (nI j))]) rfl rfl rfl ?_
    refine px_iload_n dX0_greatestBar_3 rfl ?_
    refine px_if_ltN 54 dX0_greatestBar_4 (by decide) (by omega) ?_
    refine px_aload_n dX0_greatestBar_7 rfl ?_
    refine px_get xk_X0 0 dX0_greatestBar_8 (Or.inl fl_X0_12) (fo_get hf) (by decide) rfl ?_
    refine px_aload_n dX0_greatestBar_11 rfl ?_
    refine px_vv (M2 := mX4_become) (c_X4_become hf.2.2.2) mw_X4_become wm_X4_become we_X4_become (Or.inr ⟨_, ml_X0_18⟩) dX0_greatestBar_12 (TH_obj) rfl (by decide) rfl rfl (Nat.le_of_ble_eq_true rfl) ⟨rfl, rfl⟩ ?_
    have hok0 : tOK (tSS Tn 5 j) := tSS_ok hOK (by omega)
    have hok1 := tnights_ok (hm := hm0) hok0 k (by show Tn.2 4 + k < 2 ^ 30; omega)
    refine px_aload_n dX0_greatestBar_15 rfl ?_
    refine px_get xk_X0 0 dX0_greatestBar_16 (Or.inl fl_X0_12) (fo_get hf) (by decide) rfl ?_
    refine px_iload_n dX0_greatestBar_19 rfl ?_
    refine px_tP 5 dX0_greatestBar_20 (Or.inr ⟨_, fl_X0_55⟩) (by decide) ?_
    refine px_aload_n dX0_greatestBar_23 rfl ?_
    refine px_iload_n dX0_greatestBar_24 rfl ?_
    refine px_iconst (v := nI 0) dX0_greatestBar_25 (by decide) ?_
    refine px_vv (M2 := mX0_passNights) (c_X0_passNights hf hok0 k (by omega) (by show Tn.2 4 + k < 2 ^ 30; omega) (nI 0) hm0 (fun i hi => hbit_0 i hi)) mw_X0_passNights wm_X0_passNights we_X0_passNights (Or.inl ml_X0_22) dX0_greatestBar_26 (fo_get hf) rfl (by decide) rfl rfl (Nat.le_of_ble_eq_true rfl) ⟨rfl, rfl⟩ ?_
    refine px_aload_n dX0_greatestBar_29 rfl ?_
    refine px_get xk_X0 0 dX0_greatestBar_30 (Or.inl fl_X0_12) (fo_get hf) (by decide) rfl ?_
    refine px_tS 3 dX0_greatestBar_33 (Or.inr ⟨_, fl_X0_30⟩) (by decide) ?_
    refine px_aload_n dX0_greatestBar_36 rfl ?_
    refine px_get xk_X0 0 dX0_greatestBar_37 (Or.inl fl_X0_12) (fo_get hf) (by decide) rfl ?_
    refine px_vi (M2 := mX4_everybody) (c_X4_everybody hok1) mw_X4_everybody wm_X4_everybody we_X4_everybody (Or.inr ⟨_, ml_X0_58⟩) dX0_greatestBar_40 (TH_obj) rfl (by decide) rfl rfl (Nat.le_of_ble_eq_true rfl) ⟨rfl, rfl⟩ ?_
    have hq1 := hok1.1.2.2.2.1
    have hq2 : 2 ^ ((tnights (tSS Tn 5 j) hm0 k).2 0) ≤ 2 ^ 6 := Nat.pow_le_pow_right (by omega) hok1.1.1
    refine px_icmp_neN 48 dX0_greatestBar_43 (by decide) (by omega) (by omega) (fun c43 => ?_) (fun c43 => ?_)
    · refine px_inc_3 dX0_greatestBar_48 rfl (dI_dec _) (by decide) rfl ?_
      refine px_goto 3 dX0_greatestBar_51 (by decide) ?_
      rw [fdown_n (p := pLo Tn k) (decide_eq_false c43)]
      exact ih (by omega) _ hok1
    · refine px_iload_n dX0_greatestBar_46 rfl ?_
      exact px_iret dX0_greatestBar_47 rfl rfl rfl ⟨(by rw [fdown_y (p := pLo Tn k) (decide_eq_true c43)]; rfl), _, hok1, rfl⟩
set_option maxHeartbeats 4000000 in
set_option maxRecDepth 100000 in
theorem c_X0_greatestBar {E : xE} {h : xHp} {bF bn bt : Nat} {Tn Tt : xT} (hf : xFo h bF bn bt) (hOK : tOK Tn) (hT : tOK Tt) (k : Nat) (hk : k ≤ 40) (hn : Tn.2 4 + 100 < 2 ^ 30) : PMF E mX0_greatestBar [.ref bF, .ref bn, .int (nI k)] (FH E h bn bt Tn Tt) (oI (fdown (pLo Tn k) 100)) h bn bt Tn := by
  refine pm_of [some (.ref bF), some (.ref bn), some (.int (nI k)), none] (by decide +kernel) (Nat.le_of_ble_eq_true rfl) rfl ?_
  refine px_bipush (v := nI 99) dX0_greatestBar_0 (by decide) ?_
  refine px_istn_3 dX0_greatestBar_2 (by decide) rfl ?_
  exact l_X0_greatestBar hf hOK k hk hn 100 (by omega) Tt hT
set_option maxHeartbeats 4000000 in
set_option maxRecDepth 100000 in
theorem l_X0_mostCareful {E : xE} {h : xHp} {bF bn bt : Nat} {Tn : xT} (hf : xFo h bF bn bt) (hOK : tOK Tn) (a k : Nat) (ha : a < 6) (hk : k ≤ 40) (hn : Tn.2 4 + 100 < 2 ^ 30) : ∀ (j : Nat), j ≤ 10 → ∀ (Tt : xT), tOK Tt → PW E mX0_mostCareful (fun v h1 => v = some (.int (oI (fdown (pCa Tn a k) j))) ∧ FK E h bn bt Tn h1) 0 0 4 [some (.ref bF), some (.ref bn), some (.int (nI a)), some (.int (nI k)), some (.int (dI j))] [] (FH E h bn bt Tn Tt) := by
  intro j
  induction j with
  | zero =>
    intro hj Tt hT
    refine px_eq (lo2 := [some (.ref bF), some (.ref bn), some (.int (nI a)), some (.int (nI k)), some (.int (-1))]) rfl rfl rfl ?_
    refine px_iload dX0_mostCareful_4 rfl ?_
    refine px_if_lt 57 dX0_mostCareful_6 (by decide) (fun _ => ?_) (fun z => absurd z (by decide))
    refine px_bipush (v := -4) dX0_mostCareful_57 (by decide) ?_
    exact px_iret dX0_mostCareful_59 rfl rfl rfl ⟨rfl, Tt, hT, rfl⟩
  | succ j ih =>
    intro hj Tt hT
    refine px_eq (lo2 := [some (.ref bF), some (.ref bn), some (.int (nI a)), some (.int (nI k)), some (.int (nI j))]) rfl rfl rfl ?_
    refine px_iload dX0_mostCareful_4 rfl ?_
    refine px_if_ltN 57 dX0_mostCareful_6 (by decide) (by omega) ?_
    refine px_aload_n dX0_mostCareful_9 rfl ?_
    refine px_get xk_X0 0 dX0_mostCareful_10 (Or.inl fl_X0_12) (fo_get hf) (by decide) rfl ?_
    refine px_aload_n dX0_mostCareful_13 rfl ?_
    refine px_vv (M2 := mX4_become) (c_X4_become hf.2.2.2) mw_X4_become wm_X4_become we_X4_become (Or.inr ⟨_, ml_X0_18⟩) dX0_mostCareful_14 (TH_obj) rfl (by decide) rfl rfl (Nat.le_of_ble_eq_true rfl) ⟨rfl, rfl⟩ ?_
    have hok0 : tOK (tSA Tn 3 a j) := tSA_ok hOK (by omega)
    have hok1 := tnights_ok (hm := hm0) hok0 k (by show Tn.2 4 + k < 2 ^ 30; omega)
    refine px_aload_n dX0_mostCareful_17 rfl ?_
    refine px_get xk_X0 0 dX0_mostCareful_18 (Or.inl fl_X0_12) (fo_get hf) (by decide) rfl ?_
    refine px_tR 3 dX0_mostCareful_21 (Or.inr ⟨_, fl_X0_69⟩) (by decide) ?_
    refine px_iload_n dX0_mostCareful_24 rfl ?_
    refine px_iload dX0_mostCareful_25 rfl ?_
    refine px_tW 3 dX0_mostCareful_27 (by decide) (by show _ < 6; omega) ?_
    refine px_aload_n dX0_mostCareful_28 rfl ?_
    refine px_iload_n dX0_mostCareful_29 rfl ?_
    refine px_iconst (v := nI 0) dX0_mostCareful_30 (by decide) ?_
    refine px_vv (M2 := mX0_passNights) (c_X0_passNights hf hok0 k (by omega) (by show Tn.2 4 + k < 2 ^ 30; omega) (nI 0) hm0 (fun i hi => hbit_0 i hi)) mw_X0_passNights wm_X0_passNights we_X0_passNights (Or.inl ml_X0_22) dX0_mostCareful_31 (fo_get hf) rfl (by decide) rfl rfl (Nat.le_of_ble_eq_true rfl) ⟨rfl, rfl⟩ ?_
    refine px_aload_n dX0_mostCareful_34 rfl ?_
    refine px_get xk_X0 0 dX0_mostCareful_35 (Or.inl fl_X0_12) (fo_get hf) (by decide) rfl ?_
    refine px_tS 3 dX0_mostCareful_38 (Or.inr ⟨_, fl_X0_30⟩) (by decide) ?_
    refine px_iload_n dX0_mostCareful_41 rfl ?_
    refine px_si (c_X5_has_n _ a (by have := hok1.1.2.2.2.1; omega) (by omega)) mw_X5_has wt_X5_has (Or.inr ⟨_, ml_X0_34⟩) dX0_mostCareful_42 (by decide) rfl rfl (Nat.le_of_ble_eq_true rfl) ⟨rfl, rfl⟩ ?_
    refine px_if_eqB 51 dX0_mostCareful_45 (by decide) (fun c45 => ?_) (fun c45 => ?_)
    · refine px_inc_4 dX0_mostCareful_51 rfl (dI_dec _) (by decide) rfl ?_
      refine px_goto 4 dX0_mostCareful_54 (by decide) ?_
      rw [fdown_n (p := pCa Tn a k) c45]
      exact ih (by omega) _ hok1
    · refine px_iload dX0_mostCareful_48 rfl ?_
      exact px_iret dX0_mostCareful_50 rfl rfl rfl ⟨(by rw [fdown_y (p := pCa Tn a k) c45]; rfl), _, hok1, rfl⟩
set_option maxHeartbeats 4000000 in
set_option maxRecDepth 100000 in
theorem c_X0_mostCareful {E : xE} {h : xHp} {bF bn bt : Nat} {Tn Tt : xT} (hf : xFo h bF bn bt) (hOK : tOK Tn) (hT : tOK Tt) (a k : Nat) (ha : a < 6) (hk : k ≤ 40) (hn : Tn.2 4 + 100 < 2 ^ 30) : PMF E mX0_mostCareful [.ref bF, .ref bn, .int (nI a), .int (nI k)] (FH E h bn bt Tn Tt) (oI (fdown (pCa Tn a k) 10)) h bn bt Tn := by
  refine pm_of [some (.ref bF), some (.ref bn), some (.int (nI a)), some (.int (nI k)), none] (by decide +kernel) (Nat.le_of_ble_eq_true rfl) rfl ?_
  refine px_bipush (v := nI 9) dX0_mostCareful_0 (by decide) ?_
  refine px_ist_4 dX0_mostCareful_2 (by decide) rfl ?_
  exact l_X0_mostCareful hf hOK a k ha hk hn 10 (by omega) Tt hT
set_option maxHeartbeats 4000000 in
set_option maxRecDepth 100000 in
theorem l_X0_sparedThief {E : xE} {h : xHp} {bF bn bt : Nat} {Tn : xT} (hf : xFo h bF bn bt) (hOK : tOK Tn) (k : Nat) (hk : k ≤ 40) (hn : Tn.2 4 + 100 < 2 ^ 30) : ∀ (n i : Nat) (Tt : xT), tOK Tt → i ≤ Tn.2 1 → Tn.2 1 + 1 ≤ i + n → PW E mX0_sparedThief (fun v h1 => v = some (.int (oI (tspr Tn k (Tn.2 1)))) ∧ FK E h bn bt Tn h1) 0 0 9 [some (.ref bF), some (.ref bn), some (.int (nI k)), some (.int (oI (tspr Tn k i))), some (.int (mI Tn k (tspr Tn k i))), some (.int (nI i)), none] [] (FH E h bn bt Tn Tt) := by
  have hm4 := hOK.1.2.1
  intro n
  induction n with
  | zero =>
    intro i Tt hT h1 h2
    omega
  | succ n ih =>
    intro i Tt hT h1 h2
    refine px_iload dX0_sparedThief_9 rfl ?_
    refine px_aload_n dX0_sparedThief_11 rfl ?_
    refine px_tS2 1 dX0_sparedThief_12 (Or.inr ⟨_, fl_X0_62⟩) hf.2.2.2 (by decide) ?_
    refine px_icmp_geN 48 dX0_sparedThief_15 (by decide) (by first | omega | exact hOK.lts (by decide)) (by first | omega | exact hOK.lts (by decide)) (fun c15 => ?_) (fun c15 => ?_)
    · refine px_iload_n dX0_sparedThief_48 rfl ?_
      have hi : i = Tn.2 1 := by omega
      subst hi
      exact px_iret dX0_sparedThief_49 rfl rfl rfl ⟨rfl, Tt, hT, rfl⟩
    · refine px_aload_n dX0_sparedThief_18 rfl ?_
      refine px_aload_n dX0_sparedThief_19 rfl ?_
      refine px_iload dX0_sparedThief_20 rfl ?_
      refine px_iload_n dX0_sparedThief_22 rfl ?_
      refine px_vf (M2 := mX0_swornWithout) (c_X0_swornWithout hf hOK i k (by omega) (by omega) (by omega)) mw_X0_swornWithout wm_X0_swornWithout we_X0_swornWithout (Or.inl ml_X0_65) dX0_sparedThief_23 (fo_get hf) rfl (by decide) rfl rfl (Nat.le_of_ble_eq_true rfl) ⟨rfl, rfl⟩ (fun T1 hT1 => ?_)
      refine px_ist_6 dX0_sparedThief_26 (by decide) rfl ?_
      refine px_iload dX0_sparedThief_28 rfl ?_
      refine px_iload dX0_sparedThief_30 rfl ?_
      rcases hv : tspr Tn k i with _ | bb
      · have hw1 := twout_le Tn k i
        refine px_topi (show mI Tn k none = -1 from rfl) ?_
        refine px_icmp_le 42 dX0_sparedThief_32 (by decide) (fun z => absurd z (nI_nm1 (by omega))) (fun _ => ?_)
        refine px_iload dX0_sparedThief_35 rfl ?_
        refine px_istn_3 dX0_sparedThief_37 (by decide) rfl ?_
        refine px_iload dX0_sparedThief_38 rfl ?_
        refine px_ist_4 dX0_sparedThief_40 (by decide) rfl ?_
        refine px_inc_5 dX0_sparedThief_42 rfl (nI_1 _) (by decide) rfl ?_
        refine px_goto 9 dX0_sparedThief_45 (by decide) ?_
        refine px_fg_6 ?_
        refine px_eq (lo2 := [some (.ref bF), some (.ref bn), some (.int (nI k)), some (.int (oI (tspr Tn k (i + 1)))), some (.int (mI Tn k (tspr Tn k (i + 1)))), some (.int (nI (i + 1))), none]) ?_ rfl rfl (ih (i + 1) T1 hT1 (by omega) (by omega))
        rw [tspr, hv]
        try rfl
      · have hw1 := twout_le Tn k i
        have hw2 := twout_le Tn k bb
        refine px_topi (show mI Tn k (some bb) = nI (twout Tn k bb) from rfl) ?_
        refine px_icmp_leN 42 dX0_sparedThief_32 (by decide) (by first | omega | exact hOK.lts (by decide)) (by first | omega | exact hOK.lts (by decide)) (fun c32 => ?_) (fun c32 => ?_)
        · refine px_inc_5 dX0_sparedThief_42 rfl (nI_1 _) (by decide) rfl ?_
          refine px_goto 9 dX0_sparedThief_45 (by decide) ?_
          refine px_fg_6 ?_
          refine px_eq (lo2 := [some (.ref bF), some (.ref bn), some (.int (nI k)), some (.int (oI (tspr Tn k (i + 1)))), some (.int (mI Tn k (tspr Tn k (i + 1)))), some (.int (nI (i + 1))), none]) ?_ rfl rfl (ih (i + 1) T1 hT1 (by omega) (by omega))
          simp only [tspr, hv, if_neg (Nat.not_lt.mpr c32)]
          try rfl
        · refine px_iload dX0_sparedThief_35 rfl ?_
          refine px_istn_3 dX0_sparedThief_37 (by decide) rfl ?_
          refine px_iload dX0_sparedThief_38 rfl ?_
          refine px_ist_4 dX0_sparedThief_40 (by decide) rfl ?_
          refine px_inc_5 dX0_sparedThief_42 rfl (nI_1 _) (by decide) rfl ?_
          refine px_goto 9 dX0_sparedThief_45 (by decide) ?_
          refine px_fg_6 ?_
          refine px_eq (lo2 := [some (.ref bF), some (.ref bn), some (.int (nI k)), some (.int (oI (tspr Tn k (i + 1)))), some (.int (mI Tn k (tspr Tn k (i + 1)))), some (.int (nI (i + 1))), none]) ?_ rfl rfl (ih (i + 1) T1 hT1 (by omega) (by omega))
          simp only [tspr, hv, if_pos c32]
          try rfl
set_option maxHeartbeats 4000000 in
set_option maxRecDepth 100000 in
theorem c_X0_sparedThief {E : xE} {h : xHp} {bF bn bt : Nat} {Tn Tt : xT} (hf : xFo h bF bn bt) (hOK : tOK Tn) (hT : tOK Tt) (k : Nat) (hk : k ≤ 40) (hn : Tn.2 4 + 100 < 2 ^ 30) : PMF E mX0_sparedThief [.ref bF, .ref bn, .int (nI k)] (FH E h bn bt Tn Tt) (oI (tspr Tn k (Tn.2 1))) h bn bt Tn := by
  refine pm_of [some (.ref bF), some (.ref bn), some (.int (nI k)), none, none, none, none] (by decide +kernel) (Nat.le_of_ble_eq_true rfl) rfl ?_
  refine px_bipush (v := -4) dX0_sparedThief_0 (by decide) ?_
  refine px_istn_3 dX0_sparedThief_2 (by decide) rfl ?_
  refine px_iconst (v := -1) dX0_sparedThief_3 (by decide) ?_
  refine px_ist_4 dX0_sparedThief_4 (by decide) rfl ?_
  refine px_iconst (v := nI 0) dX0_sparedThief_6 (by decide) ?_
  refine px_ist_5 dX0_sparedThief_7 (by decide) rfl ?_
  exact l_X0_sparedThief hf hOK k hk hn (Tn.2 1 + 1) 0 Tt hT (Nat.zero_le _) (by omega)
