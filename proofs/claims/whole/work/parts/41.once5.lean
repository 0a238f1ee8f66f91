abbrev PMG (E : xE) (M : xM) (av : List Value) (h0 : xHp) (x : Int32) (h : xHp) (z : Nat) (O : xO) : Prop := PMet E M av h0 (fun v h' => v = some (.int x) ∧ ∃ T' : xT, tOK T' ∧ h' = RO E h z (oT O 2 T'))
section PXG
variable {E : xE} {M M2 : xM} {Q : Option Value → xHp → Prop} {pc idx np b ci N z : Nat} {lo : List (Option Value)} {r As av fs st : List Value} {h h0 : xHp} {T : u_T} {O : xO} {x : Int32}
theorem fo_g (hm : PMF E M av (FH E (RO E h z O) (z + 1) (z + 132) (O.1.1 0) (O.1.1 2)) x (RO E h z O) (z + 1) (z + 132) (O.1.1 0)) : PMG E M av (RO E h z O) x h z O := by
  rw [ro_fha] at hm
  refine pm_mono hm (fun v h' hq => ?_)
  obtain ⟨e, T', hT, rfl⟩ := hq
  exact ⟨e, T', hT, ro_fh⟩
theorem px_vg (hm : PMG E M2 (.ref b :: As) h0 x h z O) (hw : xMW M2 np) (hi : Cond.instanceMethod (xY M2) ∈ GW) (hse : Cond.selects (xY M2).cls (xY M2) (xY M2) ∈ GW) (hl : xML (xY M).cls idx (xY M2)) (hd : decode (xC M) pc = .ok (.invokevirtual idx, 3)) (hb : h0 b = some (.inr (ci, fs))) (hc : vwCl[ci]? = some ((xY M2).cls, T, N)) (hR : xd M2 + 1 ≤ xd M ∧ 8 + (xL M2 + 11) + 39 * xd M2 ≤ 39 * xd M) (hn : As.length = np) (hst : st = As.reverse ++ .ref b :: r) (hcat : (r.map fun v => v.category).sum ≤ 8) (hz : xmc M2 = 0 ∧ xms M2 = 0)
    (kk : ∀ T' : xT, tOK T' → PW E M Q 0 0 (pc + 3) lo (.int x :: r) (RO E h z (oT O 2 T'))) : PW E M Q 0 0 pc lo st h0 := by
  refine px_callV hm hw hi hse hl hd hb hc hR hn hst hcat ⟨by rw [hz.1]; exact Nat.zero_le _, by rw [hz.2]; exact Nat.zero_le _⟩ (fun v h' hq => ?_)
  obtain ⟨rfl, T', hT, rfl⟩ := hq
  rw [hz.1, hz.2]
  exact kk T' hT
theorem fo_af {k : Nat} (hOK : tOK (O.1.1 0)) (hk : k ≤ 99) (hn : (O.1.1 0).2 4 ≤ 9999) : PMR E mX0_after [.ref (z + 131), .ref (z + 1), .int (nI k)] (RO E h z O) (z + 132) (RO E h z (oT O 2 (tnights (O.1.1 0) hm0 k))) := by
  have := c_X0_after (E := E) (h := RO E h z O) (bF := z + 131) (bn := z + 1) (bt := z + 132) (Tn := O.1.1 0) (Tt := O.1.1 2) ro_xfo hOK k hk (by omega)
  rw [ro_fha, ro_fh] at this
  exact this
end PXG
set_option maxHeartbeats 4000000 in
set_option maxRecDepth 100000 in
theorem c_X5_ahead_n {E : xE} {h : xHp} {z : Nat} {O : xO} (x y : Int32) (hx : ¬ ((0 ≤ x ∧ x < nI ((O.1.1 0).2 0)) ∧ (nI 0 ≤ y ∧ y ≤ nI 99))) : PMI E mX5_ahead [.ref z, .int x, .int y] (RO E h z O) (-1) (RO E h z O) := by
  refine pm_of [some (.ref z), some (.int x), some (.int y)] (by decide +kernel) (Nat.le_of_ble_eq_true rfl) rfl ?_
  refine px_aload_n dX5_ahead_0 rfl ?_
  refine px_iload_n dX5_ahead_1 rfl ?_
  refine px_vi (M2 := mX5_isApprentice) (c_X5_isApprentice x) mw_X5_isApprentice wm_X5_isApprentice we_X5_isApprentice (Or.inl ml_X5_78) dX5_ahead_2 (RO_obj) rfl (by decide) rfl rfl (Nat.le_of_ble_eq_true rfl) ⟨rfl, rfl⟩ ?_
  refine px_if_eqB 18 dX5_ahead_5 (by decide) (fun c5 => ?_) (fun c5 => ?_)
  · refine px_iconst (v := -1) dX5_ahead_18 (by decide) ?_
    exact px_iret dX5_ahead_19 rfl rfl rfl ⟨rfl, rfl⟩
  · refine px_iload_n dX5_ahead_8 rfl ?_
    refine px_iconst (v := nI 0) dX5_ahead_9 (by decide) ?_
    refine px_bipush (v := nI 99) dX5_ahead_10 (by decide) ?_
    refine px_si (c_X5_isWithin (y) (nI 0) (nI 99)) mw_X5_isWithin wt_X5_isWithin (Or.inl ml_X5_53) dX5_ahead_12 (by decide) rfl rfl (Nat.le_of_ble_eq_true rfl) ⟨rfl, rfl⟩ ?_
    refine px_if_neB 20 dX5_ahead_15 (by decide) (fun c15 => ?_) (fun c15 => ?_)
    · exact absurd ⟨of_decide_eq_true c5, of_decide_eq_true c15⟩ hx
    · refine px_iconst (v := -1) dX5_ahead_18 (by decide) ?_
      exact px_iret dX5_ahead_19 rfl rfl rfl ⟨rfl, rfl⟩
set_option maxHeartbeats 4000000 in
set_option maxRecDepth 100000 in
theorem c_X5_ahead {E : xE} {h : xHp} {z : Nat} {O : xO} (hOK : tOK (O.1.1 0)) (hT : tOK (O.1.1 2)) (hN : (O.1.1 0).2 4 ≤ 9999) (a k : Nat) (ha : a < (O.1.1 0).2 0) (hk : k ≤ 99) : PMG E mX5_ahead [.ref z, .int (nI a), .int (nI k)] (RO E h z O) (nI ((tnights (O.1.1 0) hm0 k).1 2 a)) h z O := by
  have hm6 := hOK.1.1
  refine pm_of [some (.ref z), some (.int (nI a)), some (.int (nI k))] (by decide +kernel) (Nat.le_of_ble_eq_true rfl) rfl ?_
  refine px_aload_n dX5_ahead_0 rfl ?_
  refine px_iload_n dX5_ahead_1 rfl ?_
  refine px_vi (M2 := mX5_isApprentice) (c_isA_y ha (by have := hOK.1.1; omega)) mw_X5_isApprentice wm_X5_isApprentice we_X5_isApprentice (Or.inl ml_X5_78) dX5_ahead_2 (RO_obj) rfl (by decide) rfl rfl (Nat.le_of_ble_eq_true rfl) ⟨rfl, rfl⟩ ?_
  refine px_if_eqB 18 dX5_ahead_5 (by decide) (fun c5 => ?_) (fun c5 => ?_)
  · cases c5
  · refine px_iload_n dX5_ahead_8 rfl ?_
    refine px_iconst (v := nI 0) dX5_ahead_9 (by decide) ?_
    refine px_bipush (v := nI 99) dX5_ahead_10 (by decide) ?_
    refine px_si (c_X5_isWithin (nI k) (nI 0) (nI 99)) mw_X5_isWithin wt_X5_isWithin (Or.inl ml_X5_53) dX5_ahead_12 (by decide) rfl rfl (Nat.le_of_ble_eq_true rfl) ⟨rfl, rfl⟩ ?_
    refine px_if_neB 20 dX5_ahead_15 (by decide) (fun c15 => ?_) (fun c15 => ?_)
    · refine px_aload_n dX5_ahead_20 rfl ?_
      refine px_get xk_X5 5 dX5_ahead_21 (Or.inl fl_X5_32) RO_obj (by decide) rfl ?_
      refine px_aload_n dX5_ahead_24 rfl ?_
      refine px_get xk_X5 0 dX5_ahead_25 (Or.inl fl_X5_10) RO_obj (by decide) rfl ?_
      refine px_iload_n dX5_ahead_28 rfl ?_
      refine px_vr (M2 := mX0_after) (fo_af hOK hk hN) mw_X0_after wm_X0_after we_X0_after (Or.inr ⟨_, ml_X5_168⟩) dX5_ahead_29 (RO_fo) rfl (by decide) rfl rfl (Nat.le_of_ble_eq_true rfl) ⟨rfl, rfl⟩ ?_
      refine px_heap ro_t2a.symm ?_
      refine px_tR 2 dX5_ahead_32 (Or.inr ⟨_, fl_X5_89⟩) (by decide) ?_
      refine px_heap ro_t2a ?_
      refine px_iload_n dX5_ahead_35 rfl ?_
      refine px_heap ro_t2a.symm ?_
      refine px_tL 2 dX5_ahead_36 (by decide) (by show _ < 6; omega) ?_
      refine px_heap ro_t2a ?_
      exact px_iret dX5_ahead_37 rfl rfl rfl ⟨rfl, _, tnights_ok hOK k (by omega), rfl⟩
    · rw [in_t (by omega) (by omega) (by decide)] at c15
      cases c15
set_option maxHeartbeats 4000000 in
set_option maxRecDepth 100000 in
theorem c_X5_then_n {E : xE} {h : xHp} {z : Nat} {O : xO} (x : Int32) (hx : ¬ ((nI 0 ≤ x ∧ x ≤ nI 99))) : PMI E mX5_then [.ref z, .int x] (RO E h z O) (-1) (RO E h z O) := by
  refine pm_of [some (.ref z), some (.int x)] (by decide +kernel) (Nat.le_of_ble_eq_true rfl) rfl ?_
  refine px_iload_n dX5_then_0 rfl ?_
  refine px_iconst (v := nI 0) dX5_then_1 (by decide) ?_
  refine px_bipush (v := nI 99) dX5_then_2 (by decide) ?_
  refine px_si (c_X5_isWithin (x) (nI 0) (nI 99)) mw_X5_isWithin wt_X5_isWithin (Or.inl ml_X5_53) dX5_then_4 (by decide) rfl rfl (Nat.le_of_ble_eq_true rfl) ⟨rfl, rfl⟩ ?_
  refine px_if_neB 12 dX5_then_7 (by decide) (fun c7 => ?_) (fun c7 => ?_)
  · exact absurd (of_decide_eq_true c7) hx
  · refine px_iconst (v := -1) dX5_then_10 (by decide) ?_
    exact px_iret dX5_then_11 rfl rfl rfl ⟨rfl, rfl⟩
set_option maxHeartbeats 4000000 in
set_option maxRecDepth 100000 in
theorem c_X5_then {E : xE} {h : xHp} {z : Nat} {O : xO} (hOK : tOK (O.1.1 0)) (hT : tOK (O.1.1 2)) (hN : (O.1.1 0).2 4 ≤ 9999) (k : Nat) (hk : k ≤ 99) : PMG E mX5_then [.ref z, .int (nI k)] (RO E h z O) (nI ((tnights (O.1.1 0) hm0 k).2 3)) h z O := by
  refine pm_of [some (.ref z), some (.int (nI k))] (by decide +kernel) (Nat.le_of_ble_eq_true rfl) rfl ?_
  refine px_iload_n dX5_then_0 rfl ?_
  refine px_iconst (v := nI 0) dX5_then_1 (by decide) ?_
  refine px_bipush (v := nI 99) dX5_then_2 (by decide) ?_
  refine px_si (c_X5_isWithin (nI k) (nI 0) (nI 99)) mw_X5_isWithin wt_X5_isWithin (Or.inl ml_X5_53) dX5_then_4 (by decide) rfl rfl (Nat.le_of_ble_eq_true rfl) ⟨rfl, rfl⟩ ?_
  refine px_if_neB 12 dX5_then_7 (by decide) (fun c7 => ?_) (fun c7 => ?_)
  · refine px_aload_n dX5_then_12 rfl ?_
    refine px_get xk_X5 5 dX5_then_13 (Or.inl fl_X5_32) RO_obj (by decide) rfl ?_
    refine px_aload_n dX5_then_16 rfl ?_
    refine px_get xk_X5 0 dX5_then_17 (Or.inl fl_X5_10) RO_obj (by decide) rfl ?_
    refine px_iload_n dX5_then_20 rfl ?_
    refine px_vr (M2 := mX0_after) (fo_af hOK hk hN) mw_X0_after wm_X0_after we_X0_after (Or.inr ⟨_, ml_X5_168⟩) dX5_then_21 (RO_fo) rfl (by decide) rfl rfl (Nat.le_of_ble_eq_true rfl) ⟨rfl, rfl⟩ ?_
    refine px_heap ro_t2a.symm ?_
    refine px_tS 3 dX5_then_24 (Or.inr ⟨_, fl_X5_102⟩) (by decide) ?_
    refine px_heap ro_t2a ?_
    exact px_iret dX5_then_27 rfl rfl rfl ⟨rfl, _, tnights_ok hOK k (by omega), rfl⟩
  · rw [in_t (by omega) (by omega) (by decide)] at c7
    cases c7
set_option maxHeartbeats 4000000 in
set_option maxRecDepth 100000 in
theorem c_X5_sworn_n {E : xE} {h : xHp} {z : Nat} {O : xO} (x : Int32) (hx : ¬ ((0 ≤ x ∧ x < nI ((O.1.1 0).2 0)))) : PMI E mX5_sworn [.ref z, .int x] (RO E h z O) (-1) (RO E h z O) := by
  refine pm_of [some (.ref z), some (.int x)] (by decide +kernel) (Nat.le_of_ble_eq_true rfl) rfl ?_
  refine px_aload_n dX5_sworn_0 rfl ?_
  refine px_iload_n dX5_sworn_1 rfl ?_
  refine px_vi (M2 := mX5_isApprentice) (c_X5_isApprentice x) mw_X5_isApprentice wm_X5_isApprentice we_X5_isApprentice (Or.inl ml_X5_78) dX5_sworn_2 (RO_obj) rfl (by decide) rfl rfl (Nat.le_of_ble_eq_true rfl) ⟨rfl, rfl⟩ ?_
  refine px_if_neB 10 dX5_sworn_5 (by decide) (fun c5 => ?_) (fun c5 => ?_)
  · exact absurd (of_decide_eq_true c5) hx
  · refine px_iconst (v := -1) dX5_sworn_8 (by decide) ?_
    exact px_iret dX5_sworn_9 rfl rfl rfl ⟨rfl, rfl⟩
set_option maxHeartbeats 4000000 in
set_option maxRecDepth 100000 in
theorem c_X5_sworn {E : xE} {h : xHp} {z : Nat} {O : xO} (hOK : tOK (O.1.1 0)) (hT : tOK (O.1.1 2)) (hN : (O.1.1 0).2 4 ≤ 9999) (a : Nat) (ha : a < (O.1.1 0).2 0) : PMG E mX5_sworn [.ref z, .int (nI a)] (RO E h z O) (oI (ffrom (pSw (O.1.1 0) a) 100 0)) h z O := by
  have hm6 := hOK.1.1
  refine pm_of [some (.ref z), some (.int (nI a))] (by decide +kernel) (Nat.le_of_ble_eq_true rfl) rfl ?_
  refine px_aload_n dX5_sworn_0 rfl ?_
  refine px_iload_n dX5_sworn_1 rfl ?_
  refine px_vi (M2 := mX5_isApprentice) (c_isA_y ha (by have := hOK.1.1; omega)) mw_X5_isApprentice wm_X5_isApprentice we_X5_isApprentice (Or.inl ml_X5_78) dX5_sworn_2 (RO_obj) rfl (by decide) rfl rfl (Nat.le_of_ble_eq_true rfl) ⟨rfl, rfl⟩ ?_
  refine px_if_neB 10 dX5_sworn_5 (by decide) (fun c5 => ?_) (fun c5 => ?_)
  · refine px_aload_n dX5_sworn_10 rfl ?_
    refine px_get xk_X5 5 dX5_sworn_11 (Or.inl fl_X5_32) RO_obj (by decide) rfl ?_
    refine px_aload_n dX5_sworn_14 rfl ?_
    refine px_get xk_X5 0 dX5_sworn_15 (Or.inl fl_X5_10) RO_obj (by decide) rfl ?_
    refine px_iload_n dX5_sworn_18 rfl ?_
    refine px_vg (M2 := mX0_nightsUntilSworn) (fo_g (c_X0_nightsUntilSworn ro_xfo hOK a (by omega) (by omega))) mw_X0_nightsUntilSworn wm_X0_nightsUntilSworn we_X0_nightsUntilSworn (Or.inr ⟨_, ml_X5_172⟩) dX5_sworn_19 (RO_fo) rfl (by decide) rfl rfl (Nat.le_of_ble_eq_true rfl) ⟨rfl, rfl⟩ (fun T1 hT1 => ?_)
    exact px_iret dX5_sworn_22 rfl rfl rfl ⟨rfl, T1, hT1, rfl⟩
  · cases c5
set_option maxHeartbeats 4000000 in
set_option maxRecDepth 100000 in
theorem c_X5_hides_n {E : xE} {h : xHp} {z : Nat} {O : xO} (x y : Int32) (hx : ¬ ((0 ≤ x ∧ x < nI ((O.1.1 0).2 0)) ∧ (nI 0 ≤ y ∧ y ≤ nI 1))) : PMI E mX5_hides [.ref z, .int x, .int y] (RO E h z O) (-1) (RO E h z O) := by
  refine pm_of [some (.ref z), some (.int x), some (.int y)] (by decide +kernel) (Nat.le_of_ble_eq_true rfl) rfl ?_
  refine px_aload_n dX5_hides_0 rfl ?_
  refine px_iload_n dX5_hides_1 rfl ?_
  refine px_vi (M2 := mX5_isApprentice) (c_X5_isApprentice x) mw_X5_isApprentice wm_X5_isApprentice we_X5_isApprentice (Or.inl ml_X5_78) dX5_hides_2 (RO_obj) rfl (by decide) rfl rfl (Nat.le_of_ble_eq_true rfl) ⟨rfl, rfl⟩ ?_
  refine px_if_eqB 17 dX5_hides_5 (by decide) (fun c5 => ?_) (fun c5 => ?_)
  · refine px_iconst (v := -1) dX5_hides_17 (by decide) ?_
    exact px_iret dX5_hides_18 rfl rfl rfl ⟨rfl, rfl⟩
  · refine px_iload_n dX5_hides_8 rfl ?_
    refine px_iconst (v := nI 0) dX5_hides_9 (by decide) ?_
    refine px_iconst (v := nI 1) dX5_hides_10 (by decide) ?_
    refine px_si (c_X5_isWithin (y) (nI 0) (nI 1)) mw_X5_isWithin wt_X5_isWithin (Or.inl ml_X5_53) dX5_hides_11 (by decide) rfl rfl (Nat.le_of_ble_eq_true rfl) ⟨rfl, rfl⟩ ?_
    refine px_if_neB 19 dX5_hides_14 (by decide) (fun c14 => ?_) (fun c14 => ?_)
    · exact absurd ⟨of_decide_eq_true c5, of_decide_eq_true c14⟩ hx
    · refine px_iconst (v := -1) dX5_hides_17 (by decide) ?_
      exact px_iret dX5_hides_18 rfl rfl rfl ⟨rfl, rfl⟩
set_option maxHeartbeats 4000000 in
set_option maxRecDepth 100000 in
theorem c_X5_hides {E : xE} {h : xHp} {z : Nat} {O : xO} (hOK : tOK (O.1.1 0)) (hT : tOK (O.1.1 2)) (hN : (O.1.1 0).2 4 ≤ 9999) (a w : Nat) (ha : a < (O.1.1 0).2 0) (hw : w ≤ 1) : PMG E mX5_hides [.ref z, .int (nI a), .int (nI w)] (RO E h z O) (if ((O.1.1 0).2 3).testBit a then nI 0 else tbh (O.1.1 0) a (decide (w = 0))) h z O := by
  have hm6 := hOK.1.1
  refine pm_of [some (.ref z), some (.int (nI a)), some (.int (nI w))] (by decide +kernel) (Nat.le_of_ble_eq_true rfl) rfl ?_
  refine px_aload_n dX5_hides_0 rfl ?_
  refine px_iload_n dX5_hides_1 rfl ?_
  refine px_vi (M2 := mX5_isApprentice) (c_isA_y ha (by have := hOK.1.1; omega)) mw_X5_isApprentice wm_X5_isApprentice we_X5_isApprentice (Or.inl ml_X5_78) dX5_hides_2 (RO_obj) rfl (by decide) rfl rfl (Nat.le_of_ble_eq_true rfl) ⟨rfl, rfl⟩ ?_
  refine px_if_eqB 17 dX5_hides_5 (by decide) (fun c5 => ?_) (fun c5 => ?_)
  · cases c5
  · refine px_iload_n dX5_hides_8 rfl ?_
    refine px_iconst (v := nI 0) dX5_hides_9 (by decide) ?_
    refine px_iconst (v := nI 1) dX5_hides_10 (by decide) ?_
    refine px_si (c_X5_isWithin (nI w) (nI 0) (nI 1)) mw_X5_isWithin wt_X5_isWithin (Or.inl ml_X5_53) dX5_hides_11 (by decide) rfl rfl (Nat.le_of_ble_eq_true rfl) ⟨rfl, rfl⟩ ?_
    refine px_if_neB 19 dX5_hides_14 (by decide) (fun c14 => ?_) (fun c14 => ?_)
    · refine px_aload_n dX5_hides_19 rfl ?_
      refine px_get xk_X5 5 dX5_hides_20 (Or.inl fl_X5_32) RO_obj (by decide) rfl ?_
      refine px_aload_n dX5_hides_23 rfl ?_
      refine px_get xk_X5 0 dX5_hides_24 (Or.inl fl_X5_10) RO_obj (by decide) rfl ?_
      refine px_iload_n dX5_hides_27 rfl ?_
      refine px_iload_n dX5_hides_28 rfl ?_
      refine px_if_neN 36 dX5_hides_29 (by decide) (by first | omega | exact hOK.lt (by decide) | exact hOK.lts (by decide)) (fun c29 => ?_) (fun c29 => ?_)
      · refine px_iconst (v := nI 0) dX5_hides_36 (by decide) ?_
        refine px_vg (M2 := mX0_bestHiding) (fo_g (c_X0_bestHiding ro_xfo hOK hT a false (by omega) (by omega))) mw_X0_bestHiding wm_X0_bestHiding we_X0_bestHiding (Or.inr ⟨_, ml_X5_179⟩) dX5_hides_37 (RO_fo) rfl (by decide) rfl rfl (Nat.le_of_ble_eq_true rfl) ⟨rfl, rfl⟩ (fun T1 hT1 => ?_)
        have hw0 : decide (w = 0) = false := decide_eq_false c29
        exact px_iret dX5_hides_40 rfl rfl rfl ⟨by rw [hw0], T1, hT1, rfl⟩
      · refine px_iconst (v := nI 1) dX5_hides_32 (by decide) ?_
        refine px_goto 37 dX5_hides_33 (by decide) ?_
        refine px_vg (M2 := mX0_bestHiding) (fo_g (c_X0_bestHiding ro_xfo hOK hT a true (by omega) (by omega))) mw_X0_bestHiding wm_X0_bestHiding we_X0_bestHiding (Or.inr ⟨_, ml_X5_179⟩) dX5_hides_37 (RO_fo) rfl (by decide) rfl rfl (Nat.le_of_ble_eq_true rfl) ⟨rfl, rfl⟩ (fun T2 hT2 => ?_)
        have hw0 : decide (w = 0) = true := decide_eq_true c29
        exact px_iret dX5_hides_40 rfl rfl rfl ⟨by rw [hw0], T2, hT2, rfl⟩
    · rw [in_t (by omega) (by omega) (by decide)] at c14
      cases c14
set_option maxHeartbeats 4000000 in
set_option maxRecDepth 100000 in
theorem c_X5_cover_n {E : xE} {h : xHp} {z : Nat} {O : xO} (x y w : Int32) (hx : ¬ ((0 ≤ x ∧ x < nI ((O.1.1 0).2 0)) ∧ (nI 1 ≤ y ∧ y ≤ nI 40) ∧ (nI 0 ≤ w ∧ w ≤ nI 1))) : PMI E mX5_cover [.ref z, .int x, .int y, .int w] (RO E h z O) (-1) (RO E h z O) := by
  refine pm_of [some (.ref z), some (.int x), some (.int y), some (.int w), none] (by decide +kernel) (Nat.le_of_ble_eq_true rfl) rfl ?_
  refine px_aload_n dX5_cover_0 rfl ?_
  refine px_iload_n dX5_cover_1 rfl ?_
  refine px_vi (M2 := mX5_isApprentice) (c_X5_isApprentice x) mw_X5_isApprentice wm_X5_isApprentice we_X5_isApprentice (Or.inl ml_X5_78) dX5_cover_2 (RO_obj) rfl (by decide) rfl rfl (Nat.le_of_ble_eq_true rfl) ⟨rfl, rfl⟩ ?_
  refine px_if_eqB 27 dX5_cover_5 (by decide) (fun c5 => ?_) (fun c5 => ?_)
  · refine px_iconst (v := -1) dX5_cover_27 (by decide) ?_
    exact px_iret dX5_cover_28 rfl rfl rfl ⟨rfl, rfl⟩
  · refine px_iload_n dX5_cover_8 rfl ?_
    refine px_iconst (v := nI 1) dX5_cover_9 (by decide) ?_
    refine px_bipush (v := nI 40) dX5_cover_10 (by decide) ?_
    refine px_si (c_X5_isWithin (y) (nI 1) (nI 40)) mw_X5_isWithin wt_X5_isWithin (Or.inl ml_X5_53) dX5_cover_12 (by decide) rfl rfl (Nat.le_of_ble_eq_true rfl) ⟨rfl, rfl⟩ ?_
    refine px_if_eqB 27 dX5_cover_15 (by decide) (fun c15 => ?_) (fun c15 => ?_)
    · refine px_iconst (v := -1) dX5_cover_27 (by decide) ?_
      exact px_iret dX5_cover_28 rfl rfl rfl ⟨rfl, rfl⟩
    · refine px_iload_n dX5_cover_18 rfl ?_
      refine px_iconst (v := nI 0) dX5_cover_19 (by decide) ?_
      refine px_iconst (v := nI 1) dX5_cover_20 (by decide) ?_
      refine px_si (c_X5_isWithin (w) (nI 0) (nI 1)) mw_X5_isWithin wt_X5_isWithin (Or.inl ml_X5_53) dX5_cover_21 (by decide) rfl rfl (Nat.le_of_ble_eq_true rfl) ⟨rfl, rfl⟩ ?_
      refine px_if_neB 29 dX5_cover_24 (by decide) (fun c24 => ?_) (fun c24 => ?_)
      · exact absurd ⟨of_decide_eq_true c5, of_decide_eq_true c15, of_decide_eq_true c24⟩ hx
      · refine px_iconst (v := -1) dX5_cover_27 (by decide) ?_
        exact px_iret dX5_cover_28 rfl rfl rfl ⟨rfl, rfl⟩
def tcvO (o : Option Nat) (w : Nat) : Int32 := match o with
  | none => -4
  | some s => if w = 1 then nI s else nI (bc s)
def tcvr (T : xT) (a k w : Nat) : Int32 := tcvO (tcov T a k (ndif (T.2 2) (2 ^ a)) 64) w
set_option maxHeartbeats 4000000 in
set_option maxRecDepth 100000 in
theorem c_X5_cover {E : xE} {h : xHp} {z : Nat} {O : xO} (hOK : tOK (O.1.1 0)) (hT : tOK (O.1.1 2)) (hN : (O.1.1 0).2 4 ≤ 9999) (a k w : Nat) (ha : a < (O.1.1 0).2 0) (h1 : 1 ≤ k) (hk : k ≤ 40) (hw : w ≤ 1) : PMG E mX5_cover [.ref z, .int (nI a), .int (nI k), .int (nI w)] (RO E h z O) (tcvr (O.1.1 0) a k w) h z O := by
  have hm6 := hOK.1.1
  refine pm_of [some (.ref z), some (.int (nI a)), some (.int (nI k)), some (.int (nI w)), none] (by decide +kernel) (Nat.le_of_ble_eq_true rfl) rfl ?_
  refine px_aload_n dX5_cover_0 rfl ?_
  refine px_iload_n dX5_cover_1 rfl ?_
  refine px_vi (M2 := mX5_isApprentice) (c_isA_y ha (by have := hOK.1.1; omega)) mw_X5_isApprentice wm_X5_isApprentice we_X5_isApprentice (Or.inl ml_X5_78) dX5_cover_2 (RO_obj) rfl (by decide) rfl rfl (Nat.le_of_ble_eq_true rfl) ⟨rfl, rfl⟩ ?_
  refine px_if_eqB 27 dX5_cover_5 (by decide) (fun c5 => ?_) (fun c5 => ?_)
  · cases c5
  · refine px_iload_n dX5_cover_8 rfl ?_
    refine px_iconst (v := nI 1) dX5_cover_9 (by decide) ?_
    refine px_bipush (v := nI 40) dX5_cover_10 (by decide) ?_
    refine px_si (c_X5_isWithin (nI k) (nI 1) (nI 40)) mw_X5_isWithin wt_X5_isWithin (Or.inl ml_X5_53) dX5_cover_12 (by decide) rfl rfl (Nat.le_of_ble_eq_true rfl) ⟨rfl, rfl⟩ ?_
    refine px_if_eqB 27 dX5_cover_15 (by decide) (fun c15 => ?_) (fun c15 => ?_)
    · rw [in_t (by omega) (by omega) (by decide)] at c15
      cases c15
    · refine px_iload_n dX5_cover_18 rfl ?_
      refine px_iconst (v := nI 0) dX5_cover_19 (by decide) ?_
      refine px_iconst (v := nI 1) dX5_cover_20 (by decide) ?_
      refine px_si (c_X5_isWithin (nI w) (nI 0) (nI 1)) mw_X5_isWithin wt_X5_isWithin (Or.inl ml_X5_53) dX5_cover_21 (by decide) rfl rfl (Nat.le_of_ble_eq_true rfl) ⟨rfl, rfl⟩ ?_
      refine px_if_neB 29 dX5_cover_24 (by decide) (fun c24 => ?_) (fun c24 => ?_)
      · refine px_aload_n dX5_cover_29 rfl ?_
        refine px_get xk_X5 5 dX5_cover_30 (Or.inl fl_X5_32) RO_obj (by decide) rfl ?_
        refine px_aload_n dX5_cover_33 rfl ?_
        refine px_get xk_X5 0 dX5_cover_34 (Or.inl fl_X5_10) RO_obj (by decide) rfl ?_
        refine px_iload_n dX5_cover_37 rfl ?_
        refine px_iload_n dX5_cover_38 rfl ?_
        refine px_vg (M2 := mX0_leastCover) (fo_g (c_X0_leastCover ro_xfo hOK hT a k (by omega) hk (by omega))) mw_X0_leastCover wm_X0_leastCover we_X0_leastCover (Or.inr ⟨_, ml_X5_183⟩) dX5_cover_39 (RO_fo) rfl (by decide) rfl rfl (Nat.le_of_ble_eq_true rfl) ⟨rfl, rfl⟩ (fun T1 hT1 => ?_)
        rcases hcv : tcov (O.1.1 0) a k (ndif ((O.1.1 0).2 2) (2 ^ a)) 64 with _ | s0
        · refine px_topi (show oI none = -4 from rfl) ?_
          refine px_ist_4 dX5_cover_42 (by decide) rfl ?_
          refine px_iload dX5_cover_44 rfl ?_
          refine px_if_lt 54 dX5_cover_46 (by decide) (fun _ => ?_) (fun z => absurd z (by decide))
          refine px_iload dX5_cover_54 rfl ?_
          refine px_goto 64 dX5_cover_56 (by decide) ?_
          exact px_iret dX5_cover_64 rfl rfl rfl ⟨by unfold tcvr; rw [hcv]; rfl, T1, hT1, rfl⟩
        · have hs0 := tcov_lt hcv
          refine px_topi (show oI (some s0) = nI s0 from rfl) ?_
          refine px_ist_4 dX5_cover_42 (by decide) rfl ?_
          refine px_iload dX5_cover_44 rfl ?_
          refine px_if_ltN 54 dX5_cover_46 (by decide) (by first | omega | exact hOK.lt (by decide) | exact hOK.lts (by decide)) ?_
          refine px_iload_n dX5_cover_49 rfl ?_
          refine px_iconst (v := nI 1) dX5_cover_50 (by decide) ?_
          refine px_icmp_neN 59 dX5_cover_51 (by decide) (by first | omega | exact hOK.lt (by decide) | exact hOK.lts (by decide)) (by first | omega | exact hOK.lt (by decide) | exact hOK.lts (by decide)) (fun c51 => ?_) (fun c51 => ?_)
          · refine px_iload dX5_cover_59 rfl ?_
            refine px_si (c_J6_bitCount_0f7a4 s0 (by omega)) mw_J6_bitCount_0f7a4 wt_J6_bitCount_0f7a4 (Or.inl ml_X5_187) dX5_cover_61 (by decide) rfl rfl (Nat.le_of_ble_eq_true rfl) ⟨rfl, rfl⟩ ?_
            exact px_iret dX5_cover_64 rfl rfl rfl ⟨by unfold tcvr; rw [hcv]; exact congrArg (fun v => some (Value.int v)) (if_neg c51).symm, T1, hT1, rfl⟩
          · refine px_iload dX5_cover_54 rfl ?_
            refine px_goto 64 dX5_cover_56 (by decide) ?_
            exact px_iret dX5_cover_64 rfl rfl rfl ⟨by unfold tcvr; rw [hcv, c51]; rfl, T1, hT1, rfl⟩
      · rw [in_t (by omega) (by omega) (by decide)] at c24
        cases c24
set_option maxHeartbeats 4000000 in
set_option maxRecDepth 100000 in
theorem c_X5_low_n {E : xE} {h : xHp} {z : Nat} {O : xO} (x : Int32) (hx : ¬ ((nI 1 ≤ x ∧ x ≤ nI 40))) : PMI E mX5_low [.ref z, .int x] (RO E h z O) (-1) (RO E h z O) := by
  refine pm_of [some (.ref z), some (.int x)] (by decide +kernel) (Nat.le_of_ble_eq_true rfl) rfl ?_
  refine px_iload_n dX5_low_0 rfl ?_
  refine px_iconst (v := nI 1) dX5_low_1 (by decide) ?_
  refine px_bipush (v := nI 40) dX5_low_2 (by decide) ?_
  refine px_si (c_X5_isWithin (x) (nI 1) (nI 40)) mw_X5_isWithin wt_X5_isWithin (Or.inl ml_X5_53) dX5_low_4 (by decide) rfl rfl (Nat.le_of_ble_eq_true rfl) ⟨rfl, rfl⟩ ?_
  refine px_if_neB 12 dX5_low_7 (by decide) (fun c7 => ?_) (fun c7 => ?_)
  · exact absurd (of_decide_eq_true c7) hx
  · refine px_iconst (v := -1) dX5_low_10 (by decide) ?_
    exact px_iret dX5_low_11 rfl rfl rfl ⟨rfl, rfl⟩
set_option maxHeartbeats 4000000 in
set_option maxRecDepth 100000 in
theorem c_X5_low {E : xE} {h : xHp} {z : Nat} {O : xO} (hOK : tOK (O.1.1 0)) (hT : tOK (O.1.1 2)) (hN : (O.1.1 0).2 4 ≤ 9999) (k : Nat) (h1 : 1 ≤ k) (hk : k ≤ 40) : PMG E mX5_low [.ref z, .int (nI k)] (RO E h z O) (oI (fdown (pLo (O.1.1 0) k) 100)) h z O := by
  refine pm_of [some (.ref z), some (.int (nI k))] (by decide +kernel) (Nat.le_of_ble_eq_true rfl) rfl ?_
  refine px_iload_n dX5_low_0 rfl ?_
  refine px_iconst (v := nI 1) dX5_low_1 (by decide) ?_
  refine px_bipush (v := nI 40) dX5_low_2 (by decide) ?_
  refine px_si (c_X5_isWithin (nI k) (nI 1) (nI 40)) mw_X5_isWithin wt_X5_isWithin (Or.inl ml_X5_53) dX5_low_4 (by decide) rfl rfl (Nat.le_of_ble_eq_true rfl) ⟨rfl, rfl⟩ ?_
  refine px_if_neB 12 dX5_low_7 (by decide) (fun c7 => ?_) (fun c7 => ?_)
  · refine px_aload_n dX5_low_12 rfl ?_
    refine px_get xk_X5 5 dX5_low_13 (Or.inl fl_X5_32) RO_obj (by decide) rfl ?_
    refine px_aload_n dX5_low_16 rfl ?_
    refine px_get xk_X5 0 dX5_low_17 (Or.inl fl_X5_10) RO_obj (by decide) rfl ?_
    refine px_iload_n dX5_low_20 rfl ?_
    refine px_vg (M2 := mX0_greatestBar) (fo_g (c_X0_greatestBar ro_xfo hOK hT k hk (by omega))) mw_X0_greatestBar wm_X0_greatestBar we_X0_greatestBar (Or.inr ⟨_, ml_X5_192⟩) dX5_low_21 (RO_fo) rfl (by decide) rfl rfl (Nat.le_of_ble_eq_true rfl) ⟨rfl, rfl⟩ (fun T1 hT1 => ?_)
    exact px_iret dX5_low_24 rfl rfl rfl ⟨rfl, T1, hT1, rfl⟩
  · rw [in_t (by omega) (by omega) (by decide)] at c7
    cases c7
set_option maxHeartbeats 4000000 in
set_option maxRecDepth 100000 in
theorem c_X5_care_n {E : xE} {h : xHp} {z : Nat} {O : xO} (x y : Int32) (hx : ¬ ((0 ≤ x ∧ x < nI ((O.1.1 0).2 0)) ∧ (nI 1 ≤ y ∧ y ≤ nI 40))) : PMI E mX5_care [.ref z, .int x, .int y] (RO E h z O) (-1) (RO E h z O) := by
  refine pm_of [some (.ref z), some (.int x), some (.int y)] (by decide +kernel) (Nat.le_of_ble_eq_true rfl) rfl ?_
  refine px_aload_n dX5_care_0 rfl ?_
  refine px_iload_n dX5_care_1 rfl ?_
  refine px_vi (M2 := mX5_isApprentice) (c_X5_isApprentice x) mw_X5_isApprentice wm_X5_isApprentice we_X5_isApprentice (Or.inl ml_X5_78) dX5_care_2 (RO_obj) rfl (by decide) rfl rfl (Nat.le_of_ble_eq_true rfl) ⟨rfl, rfl⟩ ?_
  refine px_if_eqB 18 dX5_care_5 (by decide) (fun c5 => ?_) (fun c5 => ?_)
  · refine px_iconst (v := -1) dX5_care_18 (by decide) ?_
    exact px_iret dX5_care_19 rfl rfl rfl ⟨rfl, rfl⟩
  · refine px_iload_n dX5_care_8 rfl ?_
    refine px_iconst (v := nI 1) dX5_care_9 (by decide) ?_
    refine px_bipush (v := nI 40) dX5_care_10 (by decide) ?_
    refine px_si (c_X5_isWithin (y) (nI 1) (nI 40)) mw_X5_isWithin wt_X5_isWithin (Or.inl ml_X5_53) dX5_care_12 (by decide) rfl rfl (Nat.le_of_ble_eq_true rfl) ⟨rfl, rfl⟩ ?_
    refine px_if_neB 20 dX5_care_15 (by decide) (fun c15 => ?_) (fun c15 => ?_)
    · exact absurd ⟨of_decide_eq_true c5, of_decide_eq_true c15⟩ hx
    · refine px_iconst (v := -1) dX5_care_18 (by decide) ?_
      exact px_iret dX5_care_19 rfl rfl rfl ⟨rfl, rfl⟩
set_option maxHeartbeats 4000000 in
set_option maxRecDepth 100000 in
theorem c_X5_care {E : xE} {h : xHp} {z : Nat} {O : xO} (hOK : tOK (O.1.1 0)) (hT : tOK (O.1.1 2)) (hN : (O.1.1 0).2 4 ≤ 9999) (a k : Nat) (ha : a < (O.1.1 0).2 0) (h1 : 1 ≤ k) (hk : k ≤ 40) : PMG E mX5_care [.ref z, .int (nI a), .int (nI k)] (RO E h z O) (oI (fdown (pCa (O.1.1 0) a k) 10)) h z O := by
  have hm6 := hOK.1.1
  refine pm_of [some (.ref z), some (.int (nI a)), some (.int (nI k))] (by decide +kernel) (Nat.le_of_ble_eq_true rfl) rfl ?_
  refine px_aload_n dX5_care_0 rfl ?_
  refine px_iload_n dX5_care_1 rfl ?_
  refine px_vi (M2 := mX5_isApprentice) (c_isA_y ha (by have := hOK.1.1; omega)) mw_X5_isApprentice wm_X5_isApprentice we_X5_isApprentice (Or.inl ml_X5_78) dX5_care_2 (RO_obj) rfl (by decide) rfl rfl (Nat.le_of_ble_eq_true rfl) ⟨rfl, rfl⟩ ?_
  refine px_if_eqB 18 dX5_care_5 (by decide) (fun c5 => ?_) (fun c5 => ?_)
  · cases c5
  · refine px_iload_n dX5_care_8 rfl ?_
    refine px_iconst (v := nI 1) dX5_care_9 (by decide) ?_
    refine px_bipush (v := nI 40) dX5_care_10 (by decide) ?_
    refine px_si (c_X5_isWithin (nI k) (nI 1) (nI 40)) mw_X5_isWithin wt_X5_isWithin (Or.inl ml_X5_53) dX5_care_12 (by decide) rfl rfl (Nat.le_of_ble_eq_true rfl) ⟨rfl, rfl⟩ ?_
    refine px_if_neB 20 dX5_care_15 (by decide) (fun c15 => ?_) (fun c15 => ?_)
    · refine px_aload_n dX5_care_20 rfl ?_
      refine px_get xk_X5 5 dX5_care_21 (Or.inl fl_X5_32) RO_obj (by decide) rfl ?_
      refine px_aload_n dX5_care_24 rfl ?_
      refine px_get xk_X5 0 dX5_care_25 (Or.inl fl_X5_10) RO_obj (by decide) rfl ?_
      refine px_iload_n dX5_care_28 rfl ?_
      refine px_iload_n dX5_care_29 rfl ?_
      refine px_vg (M2 := mX0_mostCareful) (fo_g (c_X0_mostCareful ro_xfo hOK hT a k (by omega) hk (by omega))) mw_X0_mostCareful wm_X0_mostCareful we_X0_mostCareful (Or.inr ⟨_, ml_X5_204⟩) dX5_care_30 (RO_fo) rfl (by decide) rfl rfl (Nat.le_of_ble_eq_true rfl) ⟨rfl, rfl⟩ (fun T1 hT1 => ?_)
      exact px_iret dX5_care_33 rfl rfl rfl ⟨rfl, T1, hT1, rfl⟩
    · rw [in_t (by omega) (by omega) (by decide)] at c15
      cases c15
set_option maxHeartbeats 4000000 in
set_option maxRecDepth 100000 in
theorem c_X5_spare_n {E : xE} {h : xHp} {z : Nat} {O : xO} (x y : Int32) (hx : ¬ ((nI 1 ≤ x ∧ x ≤ nI 40) ∧ (nI 0 ≤ y ∧ y ≤ nI 1))) : PMI E mX5_spare [.ref z, .int x, .int y] (RO E h z O) (-1) (RO E h z O) := by
  refine pm_of [some (.ref z), some (.int x), some (.int y), none] (by decide +kernel) (Nat.le_of_ble_eq_true rfl) rfl ?_
  refine px_iload_n dX5_spare_0 rfl ?_
  refine px_iconst (v := nI 1) dX5_spare_1 (by decide) ?_
  refine px_bipush (v := nI 40) dX5_spare_2 (by decide) ?_
  refine px_si (c_X5_isWithin (x) (nI 1) (nI 40)) mw_X5_isWithin wt_X5_isWithin (Or.inl ml_X5_53) dX5_spare_4 (by decide) rfl rfl (Nat.le_of_ble_eq_true rfl) ⟨rfl, rfl⟩ ?_
  refine px_if_eqB 19 dX5_spare_7 (by decide) (fun c7 => ?_) (fun c7 => ?_)
  · refine px_iconst (v := -1) dX5_spare_19 (by decide) ?_
    exact px_iret dX5_spare_20 rfl rfl rfl ⟨rfl, rfl⟩
  · refine px_iload_n dX5_spare_10 rfl ?_
    refine px_iconst (v := nI 0) dX5_spare_11 (by decide) ?_
    refine px_iconst (v := nI 1) dX5_spare_12 (by decide) ?_
    refine px_si (c_X5_isWithin (y) (nI 0) (nI 1)) mw_X5_isWithin wt_X5_isWithin (Or.inl ml_X5_53) dX5_spare_13 (by decide) rfl rfl (Nat.le_of_ble_eq_true rfl) ⟨rfl, rfl⟩ ?_
    refine px_if_neB 21 dX5_spare_16 (by decide) (fun c16 => ?_) (fun c16 => ?_)
    · exact absurd ⟨of_decide_eq_true c7, of_decide_eq_true c16⟩ hx
    · refine px_iconst (v := -1) dX5_spare_19 (by decide) ?_
      exact px_iret dX5_spare_20 rfl rfl rfl ⟨rfl, rfl⟩
def tspO (T : xT) (k : Nat) (o : Option Nat) (w : Nat) : Int32 := match o with
  | none => -4
  | some s => if w = 0 then nI s else nI (twout T k s)
def tspa (T : xT) (k w : Nat) : Int32 := tspO T k (tspr T k (T.2 1)) w
set_option maxHeartbeats 4000000 in
set_option maxRecDepth 100000 in
theorem c_X5_spare {E : xE} {h : xHp} {z : Nat} {O : xO} (hOK : tOK (O.1.1 0)) (hT : tOK (O.1.1 2)) (hN : (O.1.1 0).2 4 ≤ 9999) (k w : Nat) (h1 : 1 ≤ k) (hk : k ≤ 40) (hw : w ≤ 1) : PMG E mX5_spare [.ref z, .int (nI k), .int (nI w)] (RO E h z O) (tspa (O.1.1 0) k w) h z O := by
  refine pm_of [some (.ref z), some (.int (nI k)), some (.int (nI w)), none] (by decide +kernel) (Nat.le_of_ble_eq_true rfl) rfl ?_
  refine px_iload_n dX5_spare_0 rfl ?_
  refine px_iconst (v := nI 1) dX5_spare_1 (by decide) ?_
  refine px_bipush (v := nI 40) dX5_spare_2 (by decide) ?_
  refine px_si (c_X5_isWithin (nI k) (nI 1) (nI 40)) mw_X5_isWithin wt_X5_isWithin (Or.inl ml_X5_53) dX5_spare_4 (by decide) rfl rfl (Nat.le_of_ble_eq_true rfl) ⟨rfl, rfl⟩ ?_
  refine px_if_eqB 19 dX5_spare_7 (by decide) (fun c7 => ?_) (fun c7 => ?_)
  · rw [in_t (by omega) (by omega) (by decide)] at c7
    cases c7
  · refine px_iload_n dX5_spare_10 rfl ?_
    refine px_iconst (v := nI 0) dX5_spare_11 (by decide) ?_
    refine px_iconst (v := nI 1) dX5_spare_12 (by decide) ?_
    refine px_si (c_X5_isWithin (nI w) (nI 0) (nI 1)) mw_X5_isWithin wt_X5_isWithin (Or.inl ml_X5_53) dX5_spare_13 (by decide) rfl rfl (Nat.le_of_ble_eq_true rfl) ⟨rfl, rfl⟩ ?_
    refine px_if_neB 21 dX5_spare_16 (by decide) (fun c16 => ?_) (fun c16 => ?_)
    · refine px_aload_n dX5_spare_21 rfl ?_
      refine px_get xk_X5 5 dX5_spare_22 (Or.inl fl_X5_32) RO_obj (by decide) rfl ?_
      refine px_aload_n dX5_spare_25 rfl ?_
      refine px_get xk_X5 0 dX5_spare_26 (Or.inl fl_X5_10) RO_obj (by decide) rfl ?_
      refine px_iload_n dX5_spare_29 rfl ?_
      refine px_vg (M2 := mX0_sparedThief) (fo_g (c_X0_sparedThief ro_xfo hOK hT k hk (by omega))) mw_X0_sparedThief wm_X0_sparedThief we_X0_sparedThief (Or.inr ⟨_, ml_X5_195⟩) dX5_spare_30 (RO_fo) rfl (by decide) rfl rfl (Nat.le_of_ble_eq_true rfl) ⟨rfl, rfl⟩ (fun T1 hT1 => ?_)
      rcases hcv : tspr (O.1.1 0) k ((O.1.1 0).2 1) with _ | s0
      · refine px_topi (show oI none = -4 from rfl) ?_
        refine px_istn_3 dX5_spare_33 (by decide) rfl ?_
        refine px_iload_n dX5_spare_34 rfl ?_
        refine px_if_lt 42 dX5_spare_35 (by decide) (fun _ => ?_) (fun z => absurd z (by decide))
        refine px_iload_n dX5_spare_42 rfl ?_
        refine px_goto 59 dX5_spare_43 (by decide) ?_
        exact px_iret dX5_spare_59 rfl rfl rfl ⟨by unfold tspa; rw [hcv]; rfl, T1, hT1, rfl⟩
      · have hs0 := tspr_lt hcv
        refine px_topi (show oI (some s0) = nI s0 from rfl) ?_
        refine px_istn_3 dX5_spare_33 (by decide) rfl ?_
        refine px_iload_n dX5_spare_34 rfl ?_
        refine px_if_ltN 42 dX5_spare_35 (by decide) (by first | omega | (have := hOK.1.2.1; omega)) ?_
        refine px_iload_n dX5_spare_38 rfl ?_
        refine px_if_neN 46 dX5_spare_39 (by decide) (by first | omega | (have := hOK.1.2.1; omega)) (fun c39 => ?_) (fun c39 => ?_)
        · refine px_aload_n dX5_spare_46 rfl ?_
          refine px_get xk_X5 5 dX5_spare_47 (Or.inl fl_X5_32) RO_obj (by decide) rfl ?_
          refine px_aload_n dX5_spare_50 rfl ?_
          refine px_get xk_X5 0 dX5_spare_51 (Or.inl fl_X5_10) RO_obj (by decide) rfl ?_
          refine px_iload_n dX5_spare_54 rfl ?_
          refine px_iload_n dX5_spare_55 rfl ?_
          refine px_vg (M2 := mX0_swornWithout) (fo_g (c_X0_swornWithout (Tn := (oT O 2 T1).1.1 0) ro_xfo hOK s0 k (by have := hOK.1.2.1; omega) (by omega) (by show (O.1.1 0).2 4 + k < _; omega))) mw_X0_swornWithout wm_X0_swornWithout we_X0_swornWithout (Or.inr ⟨_, ml_X5_198⟩) dX5_spare_56 (RO_fo) rfl (by decide) rfl rfl (Nat.le_of_ble_eq_true rfl) ⟨rfl, rfl⟩ (fun T2 hT2 => ?_)
          exact px_iret dX5_spare_59 rfl rfl rfl ⟨by unfold tspa; rw [hcv]; exact congrArg (fun v => some (Value.int v)) (if_neg c39).symm, T2, hT2, by rw [oT_twice]⟩
        · refine px_iload_n dX5_spare_42 rfl ?_
          refine px_goto 59 dX5_spare_43 (by decide) ?_
          exact px_iret dX5_spare_59 rfl rfl rfl ⟨by unfold tspa; rw [hcv, c39]; rfl, T1, hT1, rfl⟩
    · rw [in_t (by omega) (by omega) (by decide)] at c16
      cases c16
