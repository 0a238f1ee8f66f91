/-! ===== the class: nights, foretellings ===== -/
def onight (O : xO) (dr : Bool) : xO := oT (oP O 0 (pkeep (O.1.2 0) (O.1.1 0))) 0 (tpass (if dr then tdraw (O.1.1 0) else O.1.1 0) hm0)
def ospend (O : xO) (dr : Bool) : Nat → xO
  | 0 => O
  | n + 1 => ospend (onight O dr) dr n
def xOok (O : xO) : Prop := tOK (O.1.1 0) ∧ (O.1.2 0).2.1 < 8 ∧ (O.1.2 0).2.2 ≤ 8
theorem tdr2_4 (T : xT) : (tdr2 T).2 4 = T.2 4 := by
  unfold tdr2
  split <;> rfl
theorem tdraw_4 (T : xT) : (tdraw T).2 4 = T.2 4 := (tdr2_4 _).trans rfl
theorem onight_4 (O : xO) (dr : Bool) : ((onight O dr).1.1 0).2 4 = (O.1.1 0).2 4 + 1 := by
  show (tpass (if dr then tdraw (O.1.1 0) else O.1.1 0) hm0).2 4 = _
  rw [tpass_s.2.2.2.1]
  cases dr
  · rfl
  · show (tdraw _).2 4 + 1 = _
    rw [tdraw_4]
theorem onight_ok {O : xO} {dr : Bool} (h : xOok O) (hn : (O.1.1 0).2 4 + 1 < 2 ^ 30) : xOok (onight O dr) := by
  refine ⟨?_, Nat.mod_lt _ (by decide), Nat.min_le_left _ _⟩
  show tOK (tpass (if dr then tdraw (O.1.1 0) else O.1.1 0) hm0)
  cases dr
  · exact tpass_ok h.1 hn
  · exact tpass_ok (tdraw_ok h.1) (by show (tdraw _).2 4 + 1 < _; rw [tdraw_4]; exact hn)
theorem hb0 : ∀ i, i < 4 → hbit (nI 0) i = hm0 i := by decide

set_option maxHeartbeats 4000000 in
set_option maxRecDepth 100000 in
theorem l_X5_spend {E : xE} {h : xHp} {z : Nat} {O0 : xO} {dr : Bool} {k : Nat} (hk : k ≤ 40) : ∀ (n : Nat) (O : xO) (i : Nat), i + n = k → xOok O → (O.1.1 0).2 4 + n + 1 < 2 ^ 30 → ospend O0 dr k = ospend O dr n → PW E mX5_spend (fun v h1 => v = some (.int (nI (((ospend O0 dr k).1.1 0).2 3))) ∧ h1 = RO E h z (ospend O0 dr k)) 0 0 32 [some (.ref z), some (.int (nI k)), some (.int (bI dr)), some (.int (nI i))] [] (RO E h z O) := by
  intro n
  induction n with
  | zero =>
    intro O i h1 hOk hn hgo
    refine px_iload_n dX5_spend_32 rfl ?_
    refine px_iload_n dX5_spend_33 rfl ?_
    refine px_icmp_geN 73 dX5_spend_34 (by decide) (by omega) (by omega) (fun c34 => ?_) (fun c34 => ?_)
    · refine px_aload_n dX5_spend_73 rfl ?_
      refine px_get xk_X5 0 dX5_spend_74 (Or.inl fl_X5_10) RO_obj (by decide) rfl ?_
      refine px_heap ro_t0a.symm ?_
      refine px_tS 3 dX5_spend_77 (Or.inr ⟨_, fl_X5_102⟩) (by decide) ?_
      refine px_heap ro_t0a ?_
      exact px_iret dX5_spend_80 rfl rfl rfl ⟨by rw [hgo]; rfl, by rw [hgo]; rfl⟩
    · omega
  | succ n ih =>
    intro O i h1 hOk hn hgo
    refine px_iload_n dX5_spend_32 rfl ?_
    refine px_iload_n dX5_spend_33 rfl ?_
    refine px_icmp_geN 73 dX5_spend_34 (by decide) (by omega) (by omega) (fun c34 => ?_) (fun c34 => ?_)
    · omega
    · refine px_aload_n dX5_spend_37 rfl ?_
      refine px_get xk_X5 1 dX5_spend_38 (Or.inl fl_X5_19) RO_obj (by decide) rfl ?_
      refine px_aload_n dX5_spend_41 rfl ?_
      refine px_get xk_X5 0 dX5_spend_42 (Or.inl fl_X5_10) RO_obj (by decide) rfl ?_
      refine px_vv (M2 := mX1_keep) (op0v (c_X1_keep ro_t0a hOk.2.1 hOk.2.2 (by omega))) mw_X1_keep wm_X1_keep we_X1_keep (Or.inr ⟨_, ml_X5_158⟩) dX5_spend_45 (ro_q0) rfl (by decide) rfl rfl (Nat.le_of_ble_eq_true rfl) ⟨rfl, rfl⟩ ?_
      refine px_iload_n dX5_spend_48 rfl ?_
      refine px_if_eqB 59 dX5_spend_49 (by decide) (fun c49 => ?_) (fun c49 => ?_)
      · refine px_aload_n dX5_spend_59 rfl ?_
        refine px_get xk_X5 0 dX5_spend_60 (Or.inl fl_X5_10) RO_obj (by decide) rfl ?_
        refine px_iconst (v := nI 0) dX5_spend_63 (by decide) ?_
        refine px_vv (M2 := mX4_pass) (on0v (c_X4_pass (T := O.1.1 0) (hOk.1) (nI 0) hm0 hb0)) mw_X4_pass wm_X4_pass we_X4_pass (Or.inr ⟨_, ml_X5_272⟩) dX5_spend_64 (ro_o0) rfl (by decide) rfl rfl (Nat.le_of_ble_eq_true rfl) ⟨rfl, rfl⟩ ?_
        refine px_inc_3 dX5_spend_67 rfl (nI_1 _) (by decide) rfl ?_
        refine px_goto 32 dX5_spend_70 (by decide) ?_
        have hdr : dr = false := c49
        subst hdr
        exact ih (onight O false) (i + 1) (by omega) (onight_ok hOk (by omega)) (by rw [onight_4]; omega) (by rw [hgo]; rfl)
      · refine px_aload_n dX5_spend_52 rfl ?_
        refine px_get xk_X5 0 dX5_spend_53 (Or.inl fl_X5_10) RO_obj (by decide) rfl ?_
        refine px_vv (M2 := mX4_drawWhoShows) (on0v (c_X4_drawWhoShows (T := (oP O 0 (pkeep (O.1.2 0) (O.1.1 0))).1.1 0) hOk.1)) mw_X4_drawWhoShows wm_X4_drawWhoShows we_X4_drawWhoShows (Or.inr ⟨_, ml_X5_269⟩) dX5_spend_56 (ro_o0) rfl (by decide) rfl rfl (Nat.le_of_ble_eq_true rfl) ⟨rfl, rfl⟩ ?_
        refine px_aload_n dX5_spend_59 rfl ?_
        refine px_get xk_X5 0 dX5_spend_60 (Or.inl fl_X5_10) RO_obj (by decide) rfl ?_
        refine px_iconst (v := nI 0) dX5_spend_63 (by decide) ?_
        refine px_vv (M2 := mX4_pass) (on0v (c_X4_pass (T := tdraw (O.1.1 0)) (tdraw_ok hOk.1) (nI 0) hm0 hb0)) mw_X4_pass wm_X4_pass we_X4_pass (Or.inr ⟨_, ml_X5_272⟩) dX5_spend_64 (ro_o0) rfl (by decide) rfl rfl (Nat.le_of_ble_eq_true rfl) ⟨rfl, rfl⟩ ?_
        refine px_inc_3 dX5_spend_67 rfl (nI_1 _) (by decide) rfl ?_
        refine px_goto 32 dX5_spend_70 (by decide) ?_
        have hdr : dr = true := c49
        subst hdr
        refine px_heap (h2 := RO E h z (onight O true)) (by rw [oT_twice]; rfl) ?_
        exact ih (onight O true) (i + 1) (by omega) (onight_ok hOk (by omega)) (by rw [onight_4]; omega) (by rw [hgo]; rfl)
set_option maxHeartbeats 4000000 in
set_option maxRecDepth 100000 in
theorem c_X5_spend_n {E : xE} {h : xHp} {z : Nat} {O : xO} (x : Int32) (dr : Bool) (hx : ¬ (nI 1 ≤ x ∧ x ≤ nI 40)) : PMI E mX5_spend [.ref z, .int x, .int (bI dr)] (RO E h z O) (-1) (RO E h z O) := by
  refine pm_of [some (.ref z), some (.int x), some (.int (bI dr)), none] (by decide +kernel) (Nat.le_of_ble_eq_true rfl) rfl ?_
  refine px_iload_n dX5_spend_0 rfl ?_
  refine px_iconst (v := nI 1) dX5_spend_1 (by decide) ?_
  refine px_bipush (v := nI 40) dX5_spend_2 (by decide) ?_
  refine px_si (c_X5_isWithin (x) (nI 1) (nI 40)) mw_X5_isWithin wt_X5_isWithin (Or.inl ml_X5_53) dX5_spend_4 (by decide) rfl rfl (Nat.le_of_ble_eq_true rfl) ⟨rfl, rfl⟩ ?_
  refine px_if_neB 12 dX5_spend_7 (by decide) (fun c7 => ?_) (fun c7 => ?_)
  · exact absurd (of_decide_eq_true c7) hx
  · refine px_iconst (v := -1) dX5_spend_10 (by decide) ?_
    exact px_iret dX5_spend_11 rfl rfl rfl ⟨rfl, rfl⟩
set_option maxHeartbeats 4000000 in
set_option maxRecDepth 100000 in
theorem c_X5_spend_f {E : xE} {h : xHp} {z : Nat} {O : xO} (hOk : xOok O) (k : Nat) (dr : Bool) (h1 : 1 ≤ k) (hk : k ≤ 40) (hn : 9999 - k < (O.1.1 0).2 4) : PMI E mX5_spend [.ref z, .int (nI k), .int (bI dr)] (RO E h z O) (-3) (RO E h z O) := by
  refine pm_of [some (.ref z), some (.int (nI k)), some (.int (bI dr)), none] (by decide +kernel) (Nat.le_of_ble_eq_true rfl) rfl ?_
  refine px_iload_n dX5_spend_0 rfl ?_
  refine px_iconst (v := nI 1) dX5_spend_1 (by decide) ?_
  refine px_bipush (v := nI 40) dX5_spend_2 (by decide) ?_
  refine px_si (c_X5_isWithin (nI k) (nI 1) (nI 40)) mw_X5_isWithin wt_X5_isWithin (Or.inl ml_X5_53) dX5_spend_4 (by decide) rfl rfl (Nat.le_of_ble_eq_true rfl) ⟨rfl, rfl⟩ ?_
  refine px_if_neB 12 dX5_spend_7 (by decide) (fun c7 => ?_) (fun c7 => ?_)
  · refine px_aload_n dX5_spend_12 rfl ?_
    refine px_get xk_X5 0 dX5_spend_13 (Or.inl fl_X5_10) RO_obj (by decide) rfl ?_
    refine px_heap ro_t0a.symm ?_
    refine px_tS 4 dX5_spend_16 (Or.inr ⟨_, fl_X5_144⟩) (by decide) ?_
    refine px_heap ro_t0a ?_
    refine px_sipush (v := nI 9999) dX5_spend_19 (by decide) ?_
    refine px_iload_n dX5_spend_22 rfl ?_
    refine px_isubN dX5_spend_23 (by omega) ?_
    refine px_icmp_leN 30 dX5_spend_24 (by decide) (by first | omega | exact hOk.1.lts (by decide)) (by first | omega | exact hOk.1.lts (by decide)) (fun c24 => ?_) (fun c24 => ?_)
    · omega
    · refine px_bipush (v := -3) dX5_spend_27 (by decide) ?_
      exact px_iret dX5_spend_29 rfl rfl rfl ⟨rfl, rfl⟩
  · rw [in_t (by omega) (by omega) (by decide)] at c7
    cases c7
set_option maxHeartbeats 4000000 in
set_option maxRecDepth 100000 in
theorem c_X5_spend {E : xE} {h : xHp} {z : Nat} {O : xO} (hOk : xOok O) (k : Nat) (dr : Bool) (h1 : 1 ≤ k) (hk : k ≤ 40) (hn : (O.1.1 0).2 4 ≤ 9999 - k) : PMI E mX5_spend [.ref z, .int (nI k), .int (bI dr)] (RO E h z O) (nI (((ospend O dr k).1.1 0).2 3)) (RO E h z (ospend O dr k)) := by
  refine pm_of [some (.ref z), some (.int (nI k)), some (.int (bI dr)), none] (by decide +kernel) (Nat.le_of_ble_eq_true rfl) rfl ?_
  refine px_iload_n dX5_spend_0 rfl ?_
  refine px_iconst (v := nI 1) dX5_spend_1 (by decide) ?_
  refine px_bipush (v := nI 40) dX5_spend_2 (by decide) ?_
  refine px_si (c_X5_isWithin (nI k) (nI 1) (nI 40)) mw_X5_isWithin wt_X5_isWithin (Or.inl ml_X5_53) dX5_spend_4 (by decide) rfl rfl (Nat.le_of_ble_eq_true rfl) ⟨rfl, rfl⟩ ?_
  refine px_if_neB 12 dX5_spend_7 (by decide) (fun c7 => ?_) (fun c7 => ?_)
  · refine px_aload_n dX5_spend_12 rfl ?_
    refine px_get xk_X5 0 dX5_spend_13 (Or.inl fl_X5_10) RO_obj (by decide) rfl ?_
    refine px_heap ro_t0a.symm ?_
    refine px_tS 4 dX5_spend_16 (Or.inr ⟨_, fl_X5_144⟩) (by decide) ?_
    refine px_heap ro_t0a ?_
    refine px_sipush (v := nI 9999) dX5_spend_19 (by decide) ?_
    refine px_iload_n dX5_spend_22 rfl ?_
    refine px_isubN dX5_spend_23 (by omega) ?_
    refine px_icmp_leN 30 dX5_spend_24 (by decide) (by first | omega | exact hOk.1.lts (by decide)) (by first | omega | exact hOk.1.lts (by decide)) (fun c24 => ?_) (fun c24 => ?_)
    · refine px_iconst (v := nI 0) dX5_spend_30 (by decide) ?_
      refine px_istn_3 dX5_spend_31 (by decide) rfl ?_
      exact l_X5_spend hk k O 0 (by omega) hOk (by omega) rfl
    · omega
  · rw [in_t (by omega) (by omega) (by decide)] at c7
    cases c7
set_option maxHeartbeats 4000000 in
set_option maxRecDepth 100000 in
theorem c_X5_nights_n {E : xE} {h : xHp} {z : Nat} {O : xO} (x : Int32) (hx : ¬ (nI 1 ≤ x ∧ x ≤ nI 40)) : PMI E mX5_nights [.ref z, .int x] (RO E h z O) (-1) (RO E h z O) := by
  refine pm_of [some (.ref z), some (.int x)] (by decide +kernel) (Nat.le_of_ble_eq_true rfl) rfl ?_
  refine px_aload_n dX5_nights_0 rfl ?_
  refine px_iload_n dX5_nights_1 rfl ?_
  refine px_iconst (v := nI 0) dX5_nights_2 (by decide) ?_
  refine px_vi (M2 := mX5_spend) (c_X5_spend_n x false hx) mw_X5_spend wm_X5_spend we_X5_spend (Or.inl ml_X5_154) dX5_nights_3 (RO_obj) rfl (by decide) rfl rfl (Nat.le_of_ble_eq_true rfl) ⟨rfl, rfl⟩ ?_
  exact px_iret dX5_nights_6 rfl rfl rfl ⟨rfl, rfl⟩
set_option maxHeartbeats 4000000 in
set_option maxRecDepth 100000 in
theorem c_X5_nights_f {E : xE} {h : xHp} {z : Nat} {O : xO} (hOk : xOok O) (k : Nat) (h1 : 1 ≤ k) (hk : k ≤ 40) (hn : 9999 - k < (O.1.1 0).2 4) : PMI E mX5_nights [.ref z, .int (nI k)] (RO E h z O) (-3) (RO E h z O) := by
  refine pm_of [some (.ref z), some (.int (nI k))] (by decide +kernel) (Nat.le_of_ble_eq_true rfl) rfl ?_
  refine px_aload_n dX5_nights_0 rfl ?_
  refine px_iload_n dX5_nights_1 rfl ?_
  refine px_iconst (v := nI 0) dX5_nights_2 (by decide) ?_
  refine px_vi (M2 := mX5_spend) (c_X5_spend_f hOk k false h1 hk hn) mw_X5_spend wm_X5_spend we_X5_spend (Or.inl ml_X5_154) dX5_nights_3 (RO_obj) rfl (by decide) rfl rfl (Nat.le_of_ble_eq_true rfl) ⟨rfl, rfl⟩ ?_
  exact px_iret dX5_nights_6 rfl rfl rfl ⟨rfl, rfl⟩
set_option maxHeartbeats 4000000 in
set_option maxRecDepth 100000 in
theorem c_X5_nights {E : xE} {h : xHp} {z : Nat} {O : xO} (hOk : xOok O) (k : Nat) (h1 : 1 ≤ k) (hk : k ≤ 40) (hn : (O.1.1 0).2 4 ≤ 9999 - k) : PMI E mX5_nights [.ref z, .int (nI k)] (RO E h z O) (nI (((ospend O false k).1.1 0).2 3)) (RO E h z (ospend O false k)) := by
  refine pm_of [some (.ref z), some (.int (nI k))] (by decide +kernel) (Nat.le_of_ble_eq_true rfl) rfl ?_
  refine px_aload_n dX5_nights_0 rfl ?_
  refine px_iload_n dX5_nights_1 rfl ?_
  refine px_iconst (v := nI 0) dX5_nights_2 (by decide) ?_
  refine px_vi (M2 := mX5_spend) (c_X5_spend hOk k false h1 hk hn) mw_X5_spend wm_X5_spend we_X5_spend (Or.inl ml_X5_154) dX5_nights_3 (RO_obj) rfl (by decide) rfl rfl (Nat.le_of_ble_eq_true rfl) ⟨rfl, rfl⟩ ?_
  exact px_iret dX5_nights_6 rfl rfl rfl ⟨rfl, rfl⟩
set_option maxHeartbeats 4000000 in
set_option maxRecDepth 100000 in
theorem c_X5_drift_n {E : xE} {h : xHp} {z : Nat} {O : xO} (x : Int32) (hx : ¬ (nI 1 ≤ x ∧ x ≤ nI 40)) : PMI E mX5_drift [.ref z, .int x] (RO E h z O) (-1) (RO E h z O) := by
  refine pm_of [some (.ref z), some (.int x)] (by decide +kernel) (Nat.le_of_ble_eq_true rfl) rfl ?_
  refine px_aload_n dX5_drift_0 rfl ?_
  refine px_iload_n dX5_drift_1 rfl ?_
  refine px_iconst (v := nI 1) dX5_drift_2 (by decide) ?_
  refine px_vi (M2 := mX5_spend) (c_X5_spend_n x true hx) mw_X5_spend wm_X5_spend we_X5_spend (Or.inl ml_X5_154) dX5_drift_3 (RO_obj) rfl (by decide) rfl rfl (Nat.le_of_ble_eq_true rfl) ⟨rfl, rfl⟩ ?_
  exact px_iret dX5_drift_6 rfl rfl rfl ⟨rfl, rfl⟩
set_option maxHeartbeats 4000000 in
set_option maxRecDepth 100000 in
theorem c_X5_drift_f {E : xE} {h : xHp} {z : Nat} {O : xO} (hOk : xOok O) (k : Nat) (h1 : 1 ≤ k) (hk : k ≤ 40) (hn : 9999 - k < (O.1.1 0).2 4) : PMI E mX5_drift [.ref z, .int (nI k)] (RO E h z O) (-3) (RO E h z O) := by
  refine pm_of [some (.ref z), some (.int (nI k))] (by decide +kernel) (Nat.le_of_ble_eq_true rfl) rfl ?_
  refine px_aload_n dX5_drift_0 rfl ?_
  refine px_iload_n dX5_drift_1 rfl ?_
  refine px_iconst (v := nI 1) dX5_drift_2 (by decide) ?_
  refine px_vi (M2 := mX5_spend) (c_X5_spend_f hOk k true h1 hk hn) mw_X5_spend wm_X5_spend we_X5_spend (Or.inl ml_X5_154) dX5_drift_3 (RO_obj) rfl (by decide) rfl rfl (Nat.le_of_ble_eq_true rfl) ⟨rfl, rfl⟩ ?_
  exact px_iret dX5_drift_6 rfl rfl rfl ⟨rfl, rfl⟩
set_option maxHeartbeats 4000000 in
set_option maxRecDepth 100000 in
theorem c_X5_drift {E : xE} {h : xHp} {z : Nat} {O : xO} (hOk : xOok O) (k : Nat) (h1 : 1 ≤ k) (hk : k ≤ 40) (hn : (O.1.1 0).2 4 ≤ 9999 - k) : PMI E mX5_drift [.ref z, .int (nI k)] (RO E h z O) (nI (((ospend O true k).1.1 0).2 3)) (RO E h z (ospend O true k)) := by
  refine pm_of [some (.ref z), some (.int (nI k))] (by decide +kernel) (Nat.le_of_ble_eq_true rfl) rfl ?_
  refine px_aload_n dX5_drift_0 rfl ?_
  refine px_iload_n dX5_drift_1 rfl ?_
  refine px_iconst (v := nI 1) dX5_drift_2 (by decide) ?_
  refine px_vi (M2 := mX5_spend) (c_X5_spend hOk k true h1 hk hn) mw_X5_spend wm_X5_spend we_X5_spend (Or.inl ml_X5_154) dX5_drift_3 (RO_obj) rfl (by decide) rfl rfl (Nat.le_of_ble_eq_true rfl) ⟨rfl, rfl⟩ ?_
  exact px_iret dX5_drift_6 rfl rfl rfl ⟨rfl, rfl⟩
