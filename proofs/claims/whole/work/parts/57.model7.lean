/-! ===== the reference's foretellings ===== -/
def Tri (O : xO) (D : xMd) (T : xT) : Prop := Rel O D ∧ Rep (D.1 1) T ∧ tOK T
theorem Tri.set {O : xO} {D : xMd} {T T' : xT} {g' : Nat → Nat} (hT : Tri O D T) (R' : Rep g' T') (hO : tOK T') : Tri O (sB D 1 g') T' := ⟨hT.1.tried0, by rw [sB_at]; exact R', hO⟩
abbrev QT (E : xE) (h : xHp) (w : Nat) (O : xO) (T : xT) : Option Value → xHp → Prop := fun v h1 => v = none ∧ ∃ D', Tri O D' T ∧ h1 = MH E h w D'
theorem c_nightT {E : xE} {h : xHp} {w : Nat} {O : xO} {D : xMd} {T : xT} (hT : Tri O D T) (hn : T.2 4 + 1 < 2 ^ 30) (x : Int32) (hm : Nat → Bool) (hx : ∀ i, i < 4 → hbit x i = hm i) : PMet E mX6_nightIn [.ref w, .ref (w + 6), .int x] (MH E h w D) (QT E h w O (tpass T hm)) := by
  have e : MH E h w D = MH E h w (sB D 1 (D.1 1)) := by rw [sB_self]
  rw [e]
  refine pm_mono (c_X6_nightIn (k := 1) (by decide) hT.2.2 x hm hx hT.2.1) (fun r h' hq => ?_)
  obtain ⟨rfl, g', pr, hR', hg', rfl⟩ := hq
  exact ⟨rfl, sB (sPr D pr) 1 g', ⟨hT.1.tried, by rw [sB_at]; exact hR', tpass_ok hT.2.2 hn⟩, rfl⟩
theorem c_robT {E : xE} {h : xHp} {w : Nat} {O : xO} {D : xMd} {T : xT} (hT : Tri O D T) (x : Int32) (hm : Nat → Bool) (hx : ∀ i, i < 4 → hbit x i = hm i) : PMet E mX6_robIn [.ref w, .ref (w + 6), .int x] (MH E h w D) (fun v h1 => v = some (.int (nI (trob T hm (T.2 1)))) ∧ ∃ D', (Rel O D' ∧ ∀ t, t < T.2 1 → mPr D' t = oI (tprey T hm t)) ∧ h1 = MH E h w D') := by
  have e : MH E h w D = MH E h w (sB D 1 (D.1 1)) := by rw [sB_self]
  rw [e]
  refine pm_mono (c_X6_robIn (k := 1) (by decide) hT.2.2 x hm hx hT.2.1) (fun r h' hq => ?_)
  obtain ⟨rfl, g', pr, U, hI, rfl⟩ := hq
  exact ⟨rfl, sB (sPr D pr) 1 g', ⟨hT.1.tried, hI.2.2.2⟩, rfl⟩
theorem c_showT {E : xE} {h : xHp} {w : Nat} {O : xO} {D : xMd} {T : xT} (hT : Tri O D T) (a : Nat) (v : Bool) (ha : a < 6) : PMV E mX6_setShows [.ref (w + 6), .int (nI a), .int (bI v)] (MH E h w D) (MH E h w (sB D 1 (va_up (D.1 1) 20 (if v then T.2 2 ||| 2 ^ a else ndif (T.2 2) (2 ^ a))))) := by
  have e : MH E h w D = MH E h w (sB D 1 (D.1 1)) := by rw [sB_self]
  rw [e]
  exact c_X6_setShows (k := 1) (by decide) hT.2.1 hT.2.2 a v ha
theorem trob_cut {T : xT} {t : Nat} : ∀ n, n ≤ t → trob T (fun i => decide (t ≤ i)) n = trob T hm0 n
  | 0, _ => rfl
  | n + 1, h => by
    rw [trob_s, trob_s, tprey_v (hm := fun i => decide (t ≤ i)) (decide_eq_false (by omega)), tprey_v (hm := hm0) rfl, trob_cut n (by omega)]
theorem trob_cut2 {T : xT} {t : Nat} : ∀ d, trob T (fun i => decide (t ≤ i)) (t + d) = trob T hm0 t
  | 0 => trob_cut t (Nat.le_refl t)
  | d + 1 => by
    rw [← Nat.add_assoc, trob_s, tprey_h (hm := fun i => decide (t ≤ i)) (decide_eq_true (by omega))]
    exact trob_cut2 d
theorem robs_eq {T : xT} {t : Nat} (ht : t < T.2 1) : tprey T hm0 t = tvic T t (trob T (fun i => decide (t ≤ i)) (T.2 1)) (T.2 0) := by
  have e : T.2 1 = t + (T.2 1 - t) := by omega
  have e2 : trob T (fun i => decide (t ≤ i)) (T.2 1) = trob T hm0 t := by
    rw [e]; exact trob_cut2 _
  rw [tprey_v (hm := hm0) rfl, e2]
def pFr (T : xT) (a f : Nat) : Nat → Bool := fun n => ((tnights T hm0 (n - f)).2 3).testBit a
def mB (T : xT) (k : Nat) : Option Nat → Int32
  | none => -4
  | some b => nI (twout T k b)
set_option maxHeartbeats 4000000 in
set_option maxRecDepth 100000 in
theorem c_X6_begin {E : xE} {h : xHp} {w : Nat} {D : xMd} {O : xO} (hR : Rel O D) : PMet E mX6_begin [.ref w] (MH E h w D) (QT E h w O (O.1.1 0)) := by
  have R := hR.1.1
  have hOK := hR.1.2.1.1
  have hm6 := hOK.1.1
  have hm4 := hOK.1.2.1
  have hN9 := hR.1.2.1.2
  refine pm_of [some (.ref w)] (by decide +kernel) (Nat.le_of_ble_eq_true rfl) rfl ?_
  refine px_aload_n dX6_begin_0 rfl ?_
  refine px_get xk_X6 7 dX6_begin_1 (Or.inl fl_X6_23) MH_obj (by decide) rfl ?_
  refine px_iconst (v := nI 0) dX6_begin_4 (by decide) ?_
  refine px_aload_n dX6_begin_5 rfl ?_
  refine px_get xk_X6 8 dX6_begin_6 (Or.inl fl_X6_26) MH_obj (by decide) rfl ?_
  refine px_iconst (v := nI 0) dX6_begin_9 (by decide) ?_
  refine px_sipush (v := nI 216) dX6_begin_10 (by decide) ?_
  refine px_sv (c_X6_bring 0 0 1 0 216 (by decide) (by decide) (by decide) (by decide) (Or.inl (by decide))) mw_X6_bring wt_X6_bring (Or.inl ml_X6_108) dX6_begin_13 (by decide) rfl rfl (Nat.le_of_ble_eq_true rfl) ⟨rfl, rfl⟩ ?_
  exact px_vret dX6_begin_16 rfl rfl rfl ⟨rfl, sB D 1 (va_cpy (D.1 0) (D.1 1) 0 0 216), ⟨hR.tried0, (by rw [sB_at]; exact R.cong hm6 hm4 (fun i hi => cpy_in (by omega))), hOK⟩, rfl⟩
set_option maxHeartbeats 4000000 in
set_option maxRecDepth 100000 in
theorem l_X6_goOn {E : xE} {h : xHp} {w : Nat} {O : xO} {T : xT} (k : Nat) (hk : k ≤ 99) (hn : T.2 4 + k < 2 ^ 30) (x : Int32) (hm : Nat → Bool) (hx : ∀ i, i < 4 → hbit x i = hm i) : ∀ (n i : Nat) (D : xMd), i ≤ k → k + 1 ≤ i + n → Tri O D (tnights T hm i) → PW E mX6_goOn (QT E h w O (tnights T hm k)) 0 0 2 [some (.ref w), some (.int (nI k)), some (.int x), some (.int (nI i))] [] (MH E h w D) := by
  intro n
  induction n with
  | zero =>
    intro i D h1 h2 hI
    omega
  | succ n ih =>
    intro i D h1 h2 hI
    refine px_iload_n dX6_goOn_2 rfl ?_
    refine px_iload_n dX6_goOn_3 rfl ?_
    refine px_icmp_geN 22 dX6_goOn_4 (by decide) (by omega) (by omega) (fun c4 => ?_) (fun c4 => ?_)
    · have hi : i = k := by omega
      subst hi
      exact px_vret dX6_goOn_22 rfl rfl rfl ⟨rfl, D, hI, rfl⟩
    · refine px_aload_n dX6_goOn_7 rfl ?_
      refine px_aload_n dX6_goOn_8 rfl ?_
      refine px_get xk_X6 8 dX6_goOn_9 (Or.inl fl_X6_26) MH_obj (by decide) rfl ?_
      refine px_iload_n dX6_goOn_12 rfl ?_
      refine px_callV (M2 := mX6_nightIn) (c_nightT hI (by rw [(tnights_s i).2.2]; omega) x hm hx) mw_X6_nightIn wm_X6_nightIn we_X6_nightIn (Or.inl ml_X6_126) dX6_goOn_13 MH_obj rfl (by decide) rfl rfl (Nat.le_of_ble_eq_true rfl) ⟨Nat.zero_le _, Nat.zero_le _⟩ (fun v h2 hq => ?_)
      obtain ⟨rfl, D1, hI1, rfl⟩ := hq
      refine px_inc_3 dX6_goOn_16 rfl (nI_1 _) (by decide) rfl ?_
      refine px_goto 2 dX6_goOn_19 (by decide) ?_
      exact ih (i + 1) D1 (by omega) (by omega) hI1
set_option maxHeartbeats 4000000 in
set_option maxRecDepth 100000 in
theorem c_X6_goOn {E : xE} {h : xHp} {w : Nat} {O : xO} {T : xT} {D : xMd} (hT : Tri O D T) (k : Nat) (hk : k ≤ 99) (hn : T.2 4 + k < 2 ^ 30) (x : Int32) (hm : Nat → Bool) (hx : ∀ i, i < 4 → hbit x i = hm i) : PMet E mX6_goOn [.ref w, .int (nI k), .int x] (MH E h w D) (QT E h w O (tnights T hm k)) := by
  refine pm_of [some (.ref w), some (.int (nI k)), some (.int x), none] (by decide +kernel) (Nat.le_of_ble_eq_true rfl) rfl ?_
  refine px_iconst (v := nI 0) dX6_goOn_0 (by decide) ?_
  refine px_istn_3 dX6_goOn_1 (by decide) rfl ?_
  exact l_X6_goOn k hk hn x hm hx (k + 1) 0 D (Nat.zero_le _) (by omega) hT
set_option maxHeartbeats 4000000 in
set_option maxRecDepth 100000 in
theorem c_X6_ahead_n {E : xE} {h : xHp} {w : Nat} {D : xMd} {O : xO} (hR : Rel O D) (x y : Int32) (hx : ¬ ((0 ≤ x ∧ x < nI ((O.1.1 0).2 0)) ∧ (nI 0 ≤ y ∧ y ≤ nI 99))) : PMX E mX6_ahead [.ref w, .int x, .int y] h w D (-1) O := by
  have R := hR.1.1
  have hOK := hR.1.2.1.1
  have hm6 := hOK.1.1
  have hm4 := hOK.1.2.1
  have hN9 := hR.1.2.1.2
  refine pm_of [some (.ref w), some (.int x), some (.int y)] (by decide +kernel) (Nat.le_of_ble_eq_true rfl) rfl ?_
  refine px_aload_n dX6_ahead_0 rfl ?_
  refine px_iload_n dX6_ahead_1 rfl ?_
  refine px_vi (M2 := mX6_isOne) (c_X6_isOne R hOK x) mw_X6_isOne wm_X6_isOne we_X6_isOne (Or.inl ml_X6_58) dX6_ahead_2 (MH_obj) rfl (by decide) rfl rfl (Nat.le_of_ble_eq_true rfl) ⟨rfl, rfl⟩ ?_
  refine px_if_eqB 18 dX6_ahead_5 (by decide) (fun c5 => ?_) (fun c5 => ?_)
  · refine px_iconst (v := -1) dX6_ahead_18 (by decide) ?_
    exact px_iret dX6_ahead_19 rfl rfl rfl ⟨rfl, D, hR, rfl⟩
  · refine px_iload_n dX6_ahead_8 rfl ?_
    refine px_iconst (v := nI 0) dX6_ahead_9 (by decide) ?_
    refine px_bipush (v := nI 99) dX6_ahead_10 (by decide) ?_
    refine px_si (c_X6_in (y) (nI 0) (nI 99)) mw_X6_in wt_X6_in (Or.inl ml_X6_38) dX6_ahead_12 (by decide) rfl rfl (Nat.le_of_ble_eq_true rfl) ⟨rfl, rfl⟩ ?_
    refine px_if_neB 20 dX6_ahead_15 (by decide) (fun c15 => ?_) (fun c15 => ?_)
    · exact absurd ⟨of_decide_eq_true c5, of_decide_eq_true c15⟩ hx
    · refine px_iconst (v := -1) dX6_ahead_18 (by decide) ?_
      exact px_iret dX6_ahead_19 rfl rfl rfl ⟨rfl, D, hR, rfl⟩
set_option maxHeartbeats 4000000 in
set_option maxRecDepth 100000 in
theorem c_X6_ahead {E : xE} {h : xHp} {w : Nat} {D : xMd} {O : xO} (hR : Rel O D) (a k : Nat) (ha : a < (O.1.1 0).2 0) (hk : k ≤ 99) : PMX E mX6_ahead [.ref w, .int (nI a), .int (nI k)] h w D (nI ((tnights (O.1.1 0) hm0 k).1 2 a)) O := by
  have R := hR.1.1
  have hOK := hR.1.2.1.1
  have hm6 := hOK.1.1
  have hm4 := hOK.1.2.1
  have hN9 := hR.1.2.1.2
  refine pm_of [some (.ref w), some (.int (nI a)), some (.int (nI k))] (by decide +kernel) (Nat.le_of_ble_eq_true rfl) rfl ?_
  refine px_aload_n dX6_ahead_0 rfl ?_
  refine px_iload_n dX6_ahead_1 rfl ?_
  refine px_vi (M2 := mX6_isOne) (c_m1_y R hOK ha) mw_X6_isOne wm_X6_isOne we_X6_isOne (Or.inl ml_X6_58) dX6_ahead_2 (MH_obj) rfl (by decide) rfl rfl (Nat.le_of_ble_eq_true rfl) ⟨rfl, rfl⟩ ?_
  refine px_if_eqB 18 dX6_ahead_5 (by decide) (fun c5 => ?_) (fun c5 => ?_)
  · cases c5
  · refine px_iload_n dX6_ahead_8 rfl ?_
    refine px_iconst (v := nI 0) dX6_ahead_9 (by decide) ?_
    refine px_bipush (v := nI 99) dX6_ahead_10 (by decide) ?_
    refine px_si (c_X6_in (nI k) (nI 0) (nI 99)) mw_X6_in wt_X6_in (Or.inl ml_X6_38) dX6_ahead_12 (by decide) rfl rfl (Nat.le_of_ble_eq_true rfl) ⟨rfl, rfl⟩ ?_
    refine px_if_neB 20 dX6_ahead_15 (by decide) (fun c15 => ?_) (fun c15 => ?_)
    · refine px_aload_n dX6_ahead_20 rfl ?_
      refine px_callV (M2 := mX6_begin) (c_X6_begin hR) mw_X6_begin wm_X6_begin we_X6_begin (Or.inl ml_X6_141) dX6_ahead_21 MH_obj rfl (by decide) rfl rfl (Nat.le_of_ble_eq_true rfl) ⟨Nat.zero_le _, Nat.zero_le _⟩ (fun v h2 hq => ?_)
      obtain ⟨rfl, D1, hI1, rfl⟩ := hq
      refine px_aload_n dX6_ahead_24 rfl ?_
      refine px_iload_n dX6_ahead_25 rfl ?_
      refine px_iconst (v := nI 0) dX6_ahead_26 (by decide) ?_
      refine px_callV (M2 := mX6_goOn) (c_X6_goOn hI1 k (by omega) (by omega) (nI 0) hm0 hb0) mw_X6_goOn wm_X6_goOn we_X6_goOn (Or.inl ml_X6_144) dX6_ahead_27 MH_obj rfl (by decide) rfl rfl (Nat.le_of_ble_eq_true rfl) ⟨Nat.zero_le _, Nat.zero_le _⟩ (fun v h2 hq => ?_)
      obtain ⟨rfl, D2, hI2, rfl⟩ := hq
      refine px_aload_n dX6_ahead_30 rfl ?_
      refine px_get xk_X6 8 dX6_ahead_31 (Or.inl fl_X6_26) MH_obj (by decide) rfl ?_
      refine px_iconst (v := nI 2) dX6_ahead_34 (by decide) ?_
      refine px_iload_n dX6_ahead_35 rfl ?_
      refine px_iaddN dX6_ahead_36 ?_
      refine px_bL (b := 1) rfl dX6_ahead_37 (by decide) (by omega) (hI2.2.1.de (by rw [(tnights_s k).1]; exact ha)) ?_
      exact px_iret dX6_ahead_38 rfl rfl rfl ⟨rfl, D2, hI2.1, rfl⟩
    · rw [in_t (by omega) (by omega) (by decide)] at c15
      cases c15
set_option maxHeartbeats 4000000 in
set_option maxRecDepth 100000 in
theorem c_X6_then_n {E : xE} {h : xHp} {w : Nat} {D : xMd} {O : xO} (hR : Rel O D) (x : Int32) (hx : ¬ ((nI 0 ≤ x ∧ x ≤ nI 99))) : PMX E mX6_then [.ref w, .int x] h w D (-1) O := by
  have R := hR.1.1
  have hOK := hR.1.2.1.1
  have hm6 := hOK.1.1
  have hm4 := hOK.1.2.1
  have hN9 := hR.1.2.1.2
  refine pm_of [some (.ref w), some (.int x)] (by decide +kernel) (Nat.le_of_ble_eq_true rfl) rfl ?_
  refine px_iload_n dX6_then_0 rfl ?_
  refine px_iconst (v := nI 0) dX6_then_1 (by decide) ?_
  refine px_bipush (v := nI 99) dX6_then_2 (by decide) ?_
  refine px_si (c_X6_in (x) (nI 0) (nI 99)) mw_X6_in wt_X6_in (Or.inl ml_X6_38) dX6_then_4 (by decide) rfl rfl (Nat.le_of_ble_eq_true rfl) ⟨rfl, rfl⟩ ?_
  refine px_if_neB 12 dX6_then_7 (by decide) (fun c7 => ?_) (fun c7 => ?_)
  · exact absurd (of_decide_eq_true c7) hx
  · refine px_iconst (v := -1) dX6_then_10 (by decide) ?_
    exact px_iret dX6_then_11 rfl rfl rfl ⟨rfl, D, hR, rfl⟩
set_option maxHeartbeats 4000000 in
set_option maxRecDepth 100000 in
theorem c_X6_then {E : xE} {h : xHp} {w : Nat} {D : xMd} {O : xO} (hR : Rel O D) (k : Nat) (hk : k ≤ 99) : PMX E mX6_then [.ref w, .int (nI k)] h w D (nI ((tnights (O.1.1 0) hm0 k).2 3)) O := by
  have R := hR.1.1
  have hOK := hR.1.2.1.1
  have hm6 := hOK.1.1
  have hm4 := hOK.1.2.1
  have hN9 := hR.1.2.1.2
  refine pm_of [some (.ref w), some (.int (nI k))] (by decide +kernel) (Nat.le_of_ble_eq_true rfl) rfl ?_
  refine px_iload_n dX6_then_0 rfl ?_
  refine px_iconst (v := nI 0) dX6_then_1 (by decide) ?_
  refine px_bipush (v := nI 99) dX6_then_2 (by decide) ?_
  refine px_si (c_X6_in (nI k) (nI 0) (nI 99)) mw_X6_in wt_X6_in (Or.inl ml_X6_38) dX6_then_4 (by decide) rfl rfl (Nat.le_of_ble_eq_true rfl) ⟨rfl, rfl⟩ ?_
  refine px_if_neB 12 dX6_then_7 (by decide) (fun c7 => ?_) (fun c7 => ?_)
  · refine px_aload_n dX6_then_12 rfl ?_
    refine px_callV (M2 := mX6_begin) (c_X6_begin hR) mw_X6_begin wm_X6_begin we_X6_begin (Or.inl ml_X6_141) dX6_then_13 MH_obj rfl (by decide) rfl rfl (Nat.le_of_ble_eq_true rfl) ⟨Nat.zero_le _, Nat.zero_le _⟩ (fun v h2 hq => ?_)
    obtain ⟨rfl, D1, hI1, rfl⟩ := hq
    refine px_aload_n dX6_then_16 rfl ?_
    refine px_iload_n dX6_then_17 rfl ?_
    refine px_iconst (v := nI 0) dX6_then_18 (by decide) ?_
    refine px_callV (M2 := mX6_goOn) (c_X6_goOn hI1 k (by omega) (by omega) (nI 0) hm0 hb0) mw_X6_goOn wm_X6_goOn we_X6_goOn (Or.inl ml_X6_144) dX6_then_19 MH_obj rfl (by decide) rfl rfl (Nat.le_of_ble_eq_true rfl) ⟨Nat.zero_le _, Nat.zero_le _⟩ (fun v h2 hq => ?_)
    obtain ⟨rfl, D2, hI2, rfl⟩ := hq
    refine px_aload_n dX6_then_22 rfl ?_
    refine px_get xk_X6 8 dX6_then_23 (Or.inl fl_X6_26) MH_obj (by decide) rfl ?_
    refine px_bipush (v := nI 21) dX6_then_26 (by decide) ?_
    refine px_bL (b := 1) rfl dX6_then_28 (by decide) (by omega) (hI2.2.1.sw) ?_
    exact px_iret dX6_then_29 rfl rfl rfl ⟨rfl, D2, hI2.1, rfl⟩
  · rw [in_t (by omega) (by omega) (by decide)] at c7
    cases c7
set_option maxHeartbeats 4000000 in
set_option maxRecDepth 100000 in
theorem l_X6_swornFrom {E : xE} {h : xHp} {w : Nat} {O : xO} {T : xT} (a f : Nat) (ha : a < 6) (hn : T.2 4 + 100 < 2 ^ 30) : ∀ (n i : Nat) (D : xMd), f ≤ i → i + n = 100 → Tri O D (tnights T hm0 (i - f)) → PW E mX6_swornFrom (fun v h1 => v = some (.int (oI (ffrom (pFr T a f) n i))) ∧ ∃ D', Rel O D' ∧ h1 = MH E h w D') 0 0 2 [some (.ref w), some (.int (nI a)), some (.int (nI f)), some (.int (nI i))] [] (MH E h w D) := by
  intro n
  induction n with
  | zero =>
    intro i D h0 h1 hI
    refine px_iload_n dX6_swornFrom_2 rfl ?_
    refine px_bipush (v := nI 99) dX6_swornFrom_3 (by decide) ?_
    refine px_icmp_gtN 39 dX6_swornFrom_5 (by decide) (by omega) (by omega) (fun c5 => ?_) (fun c5 => ?_)
    · refine px_bipush (v := -4) dX6_swornFrom_39 (by decide) ?_
      exact px_iret dX6_swornFrom_41 rfl rfl rfl ⟨rfl, D, hI.1, rfl⟩
    · omega
  | succ n ih =>
    intro i D h0 h1 hI
    refine px_iload_n dX6_swornFrom_2 rfl ?_
    refine px_bipush (v := nI 99) dX6_swornFrom_3 (by decide) ?_
    refine px_icmp_gtN 39 dX6_swornFrom_5 (by decide) (by omega) (by omega) (fun c5 => ?_) (fun c5 => ?_)
    · omega
    · refine px_aload_n dX6_swornFrom_8 rfl ?_
      refine px_get xk_X6 8 dX6_swornFrom_9 (Or.inl fl_X6_26) MH_obj (by decide) rfl ?_
      refine px_bipush (v := nI 21) dX6_swornFrom_12 (by decide) ?_
      refine px_bL (b := 1) rfl dX6_swornFrom_14 (by decide) (by omega) (hI.2.1.sw) ?_
      refine px_iload_n dX6_swornFrom_15 rfl ?_
      refine px_si (c_X6_has_n ((tnights T hm0 (i - f)).2 3) a (by have := hI.2.2.1.2.2.2.1; omega) (by omega)) mw_X6_has wt_X6_has (Or.inl ml_X6_50) dX6_swornFrom_16 (by decide) rfl rfl (Nat.le_of_ble_eq_true rfl) ⟨rfl, rfl⟩ ?_
      refine px_if_eqB 24 dX6_swornFrom_19 (by decide) (fun c19 => ?_) (fun c19 => ?_)
      · refine px_aload_n dX6_swornFrom_24 rfl ?_
        refine px_aload_n dX6_swornFrom_25 rfl ?_
        refine px_get xk_X6 8 dX6_swornFrom_26 (Or.inl fl_X6_26) MH_obj (by decide) rfl ?_
        refine px_iconst (v := nI 0) dX6_swornFrom_29 (by decide) ?_
        refine px_callV (M2 := mX6_nightIn) (c_nightT hI (by rw [(tnights_s (i - f)).2.2]; omega) (nI 0) hm0 hb0) mw_X6_nightIn wm_X6_nightIn we_X6_nightIn (Or.inl ml_X6_126) dX6_swornFrom_30 MH_obj rfl (by decide) rfl rfl (Nat.le_of_ble_eq_true rfl) ⟨Nat.zero_le _, Nat.zero_le _⟩ (fun v h2 hq => ?_)
        obtain ⟨rfl, D1, hI1, rfl⟩ := hq
        refine px_inc_3 dX6_swornFrom_33 rfl (nI_1 _) (by decide) rfl ?_
        refine px_goto 2 dX6_swornFrom_36 (by decide) ?_
        rw [ffrom_n (p := pFr T a f) c19]
        have e1 : i + 1 - f = (i - f) + 1 := by omega
        exact ih (i + 1) D1 (by omega) (by omega) (by rw [e1]; exact hI1)
      · refine px_iload_n dX6_swornFrom_22 rfl ?_
        exact px_iret dX6_swornFrom_23 rfl rfl rfl ⟨(by rw [ffrom_y (p := pFr T a f) c19]; rfl), D, hI.1, rfl⟩
set_option maxHeartbeats 4000000 in
set_option maxRecDepth 100000 in
theorem c_X6_swornFrom {E : xE} {h : xHp} {w : Nat} {O : xO} {T : xT} {D : xMd} (hT : Tri O D T) (a f : Nat) (ha : a < 6) (hf : f ≤ 100) (hn : T.2 4 + 100 < 2 ^ 30) : PMX E mX6_swornFrom [.ref w, .int (nI a), .int (nI f)] h w D (oI (ffrom (pFr T a f) (100 - f) f)) O := by
  refine pm_of [some (.ref w), some (.int (nI a)), some (.int (nI f)), none] (by decide +kernel) (Nat.le_of_ble_eq_true rfl) rfl ?_
  refine px_iload_n dX6_swornFrom_0 rfl ?_
  refine px_istn_3 dX6_swornFrom_1 (by decide) rfl ?_
  exact l_X6_swornFrom a f ha hn (100 - f) f D (Nat.le_refl _) (by omega) (by rw [Nat.sub_self]; exact hT)
set_option maxHeartbeats 4000000 in
set_option maxRecDepth 100000 in
theorem c_X6_sworn_n {E : xE} {h : xHp} {w : Nat} {D : xMd} {O : xO} (hR : Rel O D) (x : Int32) (hx : ¬ ((0 ≤ x ∧ x < nI ((O.1.1 0).2 0)))) : PMX E mX6_sworn [.ref w, .int x] h w D (-1) O := by
  have R := hR.1.1
  have hOK := hR.1.2.1.1
  have hm6 := hOK.1.1
  have hm4 := hOK.1.2.1
  have hN9 := hR.1.2.1.2
  refine pm_of [some (.ref w), some (.int x)] (by decide +kernel) (Nat.le_of_ble_eq_true rfl) rfl ?_
  refine px_aload_n dX6_sworn_0 rfl ?_
  refine px_iload_n dX6_sworn_1 rfl ?_
  refine px_vi (M2 := mX6_isOne) (c_X6_isOne R hOK x) mw_X6_isOne wm_X6_isOne we_X6_isOne (Or.inl ml_X6_58) dX6_sworn_2 (MH_obj) rfl (by decide) rfl rfl (Nat.le_of_ble_eq_true rfl) ⟨rfl, rfl⟩ ?_
  refine px_if_neB 10 dX6_sworn_5 (by decide) (fun c5 => ?_) (fun c5 => ?_)
  · exact absurd (of_decide_eq_true c5) hx
  · refine px_iconst (v := -1) dX6_sworn_8 (by decide) ?_
    exact px_iret dX6_sworn_9 rfl rfl rfl ⟨rfl, D, hR, rfl⟩
set_option maxHeartbeats 4000000 in
set_option maxRecDepth 100000 in
theorem c_X6_sworn {E : xE} {h : xHp} {w : Nat} {D : xMd} {O : xO} (hR : Rel O D) (a : Nat) (ha : a < (O.1.1 0).2 0) : PMX E mX6_sworn [.ref w, .int (nI a)] h w D (oI (ffrom (pSw (O.1.1 0) a) 100 0)) O := by
  have R := hR.1.1
  have hOK := hR.1.2.1.1
  have hm6 := hOK.1.1
  have hm4 := hOK.1.2.1
  have hN9 := hR.1.2.1.2
  refine pm_of [some (.ref w), some (.int (nI a))] (by decide +kernel) (Nat.le_of_ble_eq_true rfl) rfl ?_
  refine px_aload_n dX6_sworn_0 rfl ?_
  refine px_iload_n dX6_sworn_1 rfl ?_
  refine px_vi (M2 := mX6_isOne) (c_m1_y R hOK ha) mw_X6_isOne wm_X6_isOne we_X6_isOne (Or.inl ml_X6_58) dX6_sworn_2 (MH_obj) rfl (by decide) rfl rfl (Nat.le_of_ble_eq_true rfl) ⟨rfl, rfl⟩ ?_
  refine px_if_neB 10 dX6_sworn_5 (by decide) (fun c5 => ?_) (fun c5 => ?_)
  · refine px_aload_n dX6_sworn_10 rfl ?_
    refine px_callV (M2 := mX6_begin) (c_X6_begin hR) mw_X6_begin wm_X6_begin we_X6_begin (Or.inl ml_X6_141) dX6_sworn_11 MH_obj rfl (by decide) rfl rfl (Nat.le_of_ble_eq_true rfl) ⟨Nat.zero_le _, Nat.zero_le _⟩ (fun v h2 hq => ?_)
    obtain ⟨rfl, D1, hI1, rfl⟩ := hq
    refine px_aload_n dX6_sworn_14 rfl ?_
    refine px_iload_n dX6_sworn_15 rfl ?_
    refine px_iconst (v := nI 0) dX6_sworn_16 (by decide) ?_
    refine px_callV (M2 := mX6_swornFrom) (c_X6_swornFrom hI1 a 0 (by omega) (by decide) (by omega)) mw_X6_swornFrom wm_X6_swornFrom we_X6_swornFrom (Or.inl ml_X6_148) dX6_sworn_17 MH_obj rfl (by decide) rfl rfl (Nat.le_of_ble_eq_true rfl) ⟨Nat.zero_le _, Nat.zero_le _⟩ (fun v h2 hq => ?_)
    obtain ⟨rfl, D2, hR2, rfl⟩ := hq
    exact px_iret dX6_sworn_20 rfl rfl rfl ⟨rfl, D2, hR2, rfl⟩
  · cases c5
set_option maxHeartbeats 4000000 in
set_option maxRecDepth 100000 in
theorem c_X6_robs_n {E : xE} {h : xHp} {w : Nat} {D : xMd} {O : xO} (hR : Rel O D) (x : Int32) (hx : ¬ ((0 ≤ x ∧ x < nI ((O.1.1 0).2 1)))) : PMX E mX6_robs [.ref w, .int x] h w D (-1) O := by
  have R := hR.1.1
  have hOK := hR.1.2.1.1
  have hm6 := hOK.1.1
  have hm4 := hOK.1.2.1
  have hN9 := hR.1.2.1.2
  refine pm_of [some (.ref w), some (.int x)] (by decide +kernel) (Nat.le_of_ble_eq_true rfl) rfl ?_
  refine px_aload_n dX6_robs_0 rfl ?_
  refine px_iload_n dX6_robs_1 rfl ?_
  refine px_vi (M2 := mX6_isThief) (c_X6_isThief R hOK x) mw_X6_isThief wm_X6_isThief we_X6_isThief (Or.inl ml_X6_66) dX6_robs_2 (MH_obj) rfl (by decide) rfl rfl (Nat.le_of_ble_eq_true rfl) ⟨rfl, rfl⟩ ?_
  refine px_if_neB 10 dX6_robs_5 (by decide) (fun c5 => ?_) (fun c5 => ?_)
  · exact absurd (of_decide_eq_true c5) hx
  · refine px_iconst (v := -1) dX6_robs_8 (by decide) ?_
    exact px_iret dX6_robs_9 rfl rfl rfl ⟨rfl, D, hR, rfl⟩
set_option maxHeartbeats 4000000 in
set_option maxRecDepth 100000 in
theorem c_X6_robs {E : xE} {h : xHp} {w : Nat} {D : xMd} {O : xO} (hR : Rel O D) (t : Nat) (ht : t < (O.1.1 0).2 1) : PMX E mX6_robs [.ref w, .int (nI t)] h w D (oI (tvic (O.1.1 0) t (trob (O.1.1 0) (fun i => decide (t ≤ i)) ((O.1.1 0).2 1)) ((O.1.1 0).2 0))) O := by
  have R := hR.1.1
  have hOK := hR.1.2.1.1
  have hm6 := hOK.1.1
  have hm4 := hOK.1.2.1
  have hN9 := hR.1.2.1.2
  refine pm_of [some (.ref w), some (.int (nI t))] (by decide +kernel) (Nat.le_of_ble_eq_true rfl) rfl ?_
  refine px_aload_n dX6_robs_0 rfl ?_
  refine px_iload_n dX6_robs_1 rfl ?_
  refine px_vi (M2 := mX6_isThief) (c_m2_y R hOK ht) mw_X6_isThief wm_X6_isThief we_X6_isThief (Or.inl ml_X6_66) dX6_robs_2 (MH_obj) rfl (by decide) rfl rfl (Nat.le_of_ble_eq_true rfl) ⟨rfl, rfl⟩ ?_
  refine px_if_neB 10 dX6_robs_5 (by decide) (fun c5 => ?_) (fun c5 => ?_)
  · refine px_aload_n dX6_robs_10 rfl ?_
    refine px_callV (M2 := mX6_begin) (c_X6_begin hR) mw_X6_begin wm_X6_begin we_X6_begin (Or.inl ml_X6_141) dX6_robs_11 MH_obj rfl (by decide) rfl rfl (Nat.le_of_ble_eq_true rfl) ⟨Nat.zero_le _, Nat.zero_le _⟩ (fun v h2 hq => ?_)
    obtain ⟨rfl, D1, hI1, rfl⟩ := hq
    refine px_aload_n dX6_robs_14 rfl ?_
    refine px_aload_n dX6_robs_15 rfl ?_
    refine px_get xk_X6 8 dX6_robs_16 (Or.inl fl_X6_26) MH_obj (by decide) rfl ?_
    refine px_iconst (v := nI 0) dX6_robs_19 (by decide) ?_
    refine px_callV (M2 := mX6_robIn) (c_robT hI1 (nI 0) hm0 hb0) mw_X6_robIn wm_X6_robIn we_X6_robIn (Or.inl ml_X6_115) dX6_robs_20 MH_obj rfl (by decide) rfl rfl (Nat.le_of_ble_eq_true rfl) ⟨Nat.zero_le _, Nat.zero_le _⟩ (fun v h2 hq => ?_)
    obtain ⟨rfl, D2, ⟨hR2, hP⟩, rfl⟩ := hq
    refine px_pop dX6_robs_23 rfl ?_
    refine px_aload_n dX6_robs_24 rfl ?_
    refine px_get xk_X6 12 dX6_robs_25 (Or.inl fl_X6_35) MH_obj (by decide) rfl ?_
    refine px_iload_n dX6_robs_28 rfl ?_
    refine px_prL dX6_robs_29 (by omega) (hP t ht) ?_
    exact px_iret dX6_robs_30 rfl rfl rfl ⟨by rw [robs_eq ht], D2, hR2, rfl⟩
  · cases c5
set_option maxHeartbeats 4000000 in
set_option maxRecDepth 100000 in
theorem l_X6_low {E : xE} {h : xHp} {w : Nat} {O : xO} (k : Nat) (h1 : 1 ≤ k) (hk : k ≤ 40) : ∀ (j : Nat), j ≤ 100 → ∀ (D : xMd), Rel O D → PW E mX6_low (fun v h1 => v = some (.int (oI (fdown (pLo (O.1.1 0) k) j))) ∧ ∃ D', Rel O D' ∧ h1 = MH E h w D') 0 0 15 [some (.ref w), some (.int (nI k)), some (.int (dI j))] [] (MH E h w D) := by
  intro j
  induction j with
  | zero =>
    intro hj D hR
    refine px_eq (lo2 := [some (.ref w), some (.int (nI k)), some (.int (-1))]) rfl rfl rfl ?_
    refine px_iload_n dX6_low_15 rfl ?_
    refine px_if_lt 66 dX6_low_16 (by decide) (fun _ => ?_) (fun z => absurd z (by decide))
    refine px_bipush (v := -4) dX6_low_66 (by decide) ?_
    exact px_iret dX6_low_68 rfl rfl rfl ⟨rfl, D, hR, rfl⟩
  | succ j ih =>
    intro hj D hR
    have R := hR.1.1
    have hOK := hR.1.2.1.1
    have hm6 := hOK.1.1
    have hm4 := hOK.1.2.1
    have hN9 := hR.1.2.1.2
    refine px_eq (lo2 := [some (.ref w), some (.int (nI k)), some (.int (nI j))]) rfl rfl rfl ?_
    refine px_iload_n dX6_low_15 rfl ?_
    refine px_if_ltN 66 dX6_low_16 (by decide) (by omega) ?_
    refine px_aload_n dX6_low_19 rfl ?_
    refine px_callV (M2 := mX6_begin) (c_X6_begin hR) mw_X6_begin wm_X6_begin we_X6_begin (Or.inl ml_X6_141) dX6_low_20 MH_obj rfl (by decide) rfl rfl (Nat.le_of_ble_eq_true rfl) ⟨Nat.zero_le _, Nat.zero_le _⟩ (fun v h2 hq => ?_)
    obtain ⟨rfl, D1, hI1, rfl⟩ := hq
    refine px_aload_n dX6_low_23 rfl ?_
    refine px_get xk_X6 8 dX6_low_24 (Or.inl fl_X6_26) MH_obj (by decide) rfl ?_
    refine px_bipush (v := nI 22) dX6_low_27 (by decide) ?_
    refine px_iload_n dX6_low_29 rfl ?_
    refine px_bW (b := 1) dX6_low_30 (by decide) (by decide) ?_
    have hI2 := hI1.set (hI1.2.1.ups5 hm6 hm4 (v := j)) (tSS_ok hOK (by omega))
    refine px_aload_n dX6_low_31 rfl ?_
    refine px_iload_n dX6_low_32 rfl ?_
    refine px_iconst (v := nI 0) dX6_low_33 (by decide) ?_
    refine px_callV (M2 := mX6_goOn) (c_X6_goOn hI2 k (by omega) (by show (O.1.1 0).2 4 + k < 2 ^ 30; omega) (nI 0) hm0 hb0) mw_X6_goOn wm_X6_goOn we_X6_goOn (Or.inl ml_X6_144) dX6_low_34 MH_obj rfl (by decide) rfl rfl (Nat.le_of_ble_eq_true rfl) ⟨Nat.zero_le _, Nat.zero_le _⟩ (fun v h2 hq => ?_)
    obtain ⟨rfl, D3, hI3, rfl⟩ := hq
    refine px_aload_n dX6_low_37 rfl ?_
    refine px_get xk_X6 8 dX6_low_38 (Or.inl fl_X6_26) MH_obj (by decide) rfl ?_
    refine px_bipush (v := nI 21) dX6_low_41 (by decide) ?_
    refine px_bL (b := 1) rfl dX6_low_43 (by decide) (by omega) (hI3.2.1.sw) ?_
    refine px_iconst (v := nI 1) dX6_low_44 (by decide) ?_
    refine px_aload_n dX6_low_45 rfl ?_
    refine px_get xk_X6 7 dX6_low_46 (Or.inl fl_X6_23) MH_obj (by decide) rfl ?_
    refine px_bipush (v := nI 23) dX6_low_49 (by decide) ?_
    refine px_bL (b := 0) rfl dX6_low_51 (by decide) (by omega) (hI3.1.1.1.mn) ?_
    have hq1 := hI3.2.2.1.2.2.2.1
    have hq2 : 2 ^ ((O.1.1 0).2 0) ≤ 2 ^ 6 := Nat.pow_le_pow_right (by omega) hm6
    have hq3 : 1 ≤ 2 ^ ((O.1.1 0).2 0) := Nat.one_le_two_pow
    refine px_ishl1 dX6_low_52 (by omega) ?_
    refine px_iconst (v := nI 1) dX6_low_53 (by decide) ?_
    refine px_isubN dX6_low_54 (by omega) ?_
    refine px_icmp_neN 60 dX6_low_55 (by decide) (by omega) (by omega) (fun c55 => ?_) (fun c55 => ?_)
    · refine px_inc_2 dX6_low_60 rfl (dI_dec _) (by decide) rfl ?_
      refine px_goto 15 dX6_low_63 (by decide) ?_
      rw [fdown_n (p := pLo (O.1.1 0) k) (decide_eq_false (by rw [(tnights_s k).1]; exact c55))]
      exact ih (by omega) _ hI3.1
    · refine px_iload_n dX6_low_58 rfl ?_
      exact px_iret dX6_low_59 rfl rfl rfl ⟨(by rw [fdown_y (p := pLo (O.1.1 0) k) (decide_eq_true (by rw [(tnights_s k).1]; exact c55))]; rfl), _, hI3.1, rfl⟩
set_option maxHeartbeats 4000000 in
set_option maxRecDepth 100000 in
theorem c_X6_low_n {E : xE} {h : xHp} {w : Nat} {D : xMd} {O : xO} (hR : Rel O D) (x : Int32) (hx : ¬ ((nI 1 ≤ x ∧ x ≤ nI 40))) : PMX E mX6_low [.ref w, .int x] h w D (-1) O := by
  have R := hR.1.1
  have hOK := hR.1.2.1.1
  have hm6 := hOK.1.1
  have hm4 := hOK.1.2.1
  have hN9 := hR.1.2.1.2
  refine pm_of [some (.ref w), some (.int x), none] (by decide +kernel) (Nat.le_of_ble_eq_true rfl) rfl ?_
  refine px_iload_n dX6_low_0 rfl ?_
  refine px_iconst (v := nI 1) dX6_low_1 (by decide) ?_
  refine px_bipush (v := nI 40) dX6_low_2 (by decide) ?_
  refine px_si (c_X6_in (x) (nI 1) (nI 40)) mw_X6_in wt_X6_in (Or.inl ml_X6_38) dX6_low_4 (by decide) rfl rfl (Nat.le_of_ble_eq_true rfl) ⟨rfl, rfl⟩ ?_
  refine px_if_neB 12 dX6_low_7 (by decide) (fun c7 => ?_) (fun c7 => ?_)
  · exact absurd (of_decide_eq_true c7) hx
  · refine px_iconst (v := -1) dX6_low_10 (by decide) ?_
    exact px_iret dX6_low_11 rfl rfl rfl ⟨rfl, D, hR, rfl⟩
set_option maxHeartbeats 4000000 in
set_option maxRecDepth 100000 in
theorem c_X6_low {E : xE} {h : xHp} {w : Nat} {D : xMd} {O : xO} (hR : Rel O D) (k : Nat) (h1 : 1 ≤ k) (hk : k ≤ 40) : PMX E mX6_low [.ref w, .int (nI k)] h w D (oI (fdown (pLo (O.1.1 0) k) 100)) O := by
  have R := hR.1.1
  have hOK := hR.1.2.1.1
  have hm6 := hOK.1.1
  have hm4 := hOK.1.2.1
  have hN9 := hR.1.2.1.2
  refine pm_of [some (.ref w), some (.int (nI k)), none] (by decide +kernel) (Nat.le_of_ble_eq_true rfl) rfl ?_
  refine px_iload_n dX6_low_0 rfl ?_
  refine px_iconst (v := nI 1) dX6_low_1 (by decide) ?_
  refine px_bipush (v := nI 40) dX6_low_2 (by decide) ?_
  refine px_si (c_X6_in (nI k) (nI 1) (nI 40)) mw_X6_in wt_X6_in (Or.inl ml_X6_38) dX6_low_4 (by decide) rfl rfl (Nat.le_of_ble_eq_true rfl) ⟨rfl, rfl⟩ ?_
  refine px_if_neB 12 dX6_low_7 (by decide) (fun c7 => ?_) (fun c7 => ?_)
  · refine px_bipush (v := nI 99) dX6_low_12 (by decide) ?_
    refine px_istn_2 dX6_low_14 (by decide) rfl ?_
    exact l_X6_low k h1 hk 100 (by omega) D hR
  · rw [in_t (by omega) (by omega) (by decide)] at c7
    cases c7
set_option maxHeartbeats 4000000 in
set_option maxRecDepth 100000 in
theorem l_X6_care {E : xE} {h : xHp} {w : Nat} {O : xO} (a k : Nat) (ha : a < (O.1.1 0).2 0) (h1 : 1 ≤ k) (hk : k ≤ 40) : ∀ (j : Nat), j ≤ 10 → ∀ (D : xMd), Rel O D → PW E mX6_care (fun v h1 => v = some (.int (oI (fdown (pCa (O.1.1 0) a k) j))) ∧ ∃ D', Rel O D' ∧ h1 = MH E h w D') 0 0 23 [some (.ref w), some (.int (nI a)), some (.int (nI k)), some (.int (dI j))] [] (MH E h w D) := by
  intro j
  induction j with
  | zero =>
    intro hj D hR
    refine px_eq (lo2 := [some (.ref w), some (.int (nI a)), some (.int (nI k)), some (.int (-1))]) rfl rfl rfl ?_
    refine px_iload_n dX6_care_23 rfl ?_
    refine px_if_lt 69 dX6_care_24 (by decide) (fun _ => ?_) (fun z => absurd z (by decide))
    refine px_bipush (v := -4) dX6_care_69 (by decide) ?_
    exact px_iret dX6_care_71 rfl rfl rfl ⟨rfl, D, hR, rfl⟩
  | succ j ih =>
    intro hj D hR
    have R := hR.1.1
    have hOK := hR.1.2.1.1
    have hm6 := hOK.1.1
    have hm4 := hOK.1.2.1
    have hN9 := hR.1.2.1.2
    refine px_eq (lo2 := [some (.ref w), some (.int (nI a)), some (.int (nI k)), some (.int (nI j))]) rfl rfl rfl ?_
    refine px_iload_n dX6_care_23 rfl ?_
    refine px_if_ltN 69 dX6_care_24 (by decide) (by omega) ?_
    refine px_aload_n dX6_care_27 rfl ?_
    refine px_callV (M2 := mX6_begin) (c_X6_begin hR) mw_X6_begin wm_X6_begin we_X6_begin (Or.inl ml_X6_141) dX6_care_28 MH_obj rfl (by decide) rfl rfl (Nat.le_of_ble_eq_true rfl) ⟨Nat.zero_le _, Nat.zero_le _⟩ (fun v h2 hq => ?_)
    obtain ⟨rfl, D1, hI1, rfl⟩ := hq
    refine px_aload_n dX6_care_31 rfl ?_
    refine px_get xk_X6 8 dX6_care_32 (Or.inl fl_X6_26) MH_obj (by decide) rfl ?_
    refine px_bipush (v := nI 14) dX6_care_35 (by decide) ?_
    refine px_iload_n dX6_care_37 rfl ?_
    refine px_iaddN dX6_care_38 ?_
    refine px_iload_n dX6_care_39 rfl ?_
    refine px_bW (b := 1) dX6_care_40 (by decide) (by omega) ?_
    have hI2 := hI1.set (hI1.2.1.up3 hm6 hm4 (a := a) (v := j) (by omega)) (tSA_ok hOK (by omega))
    refine px_aload_n dX6_care_41 rfl ?_
    refine px_iload_n dX6_care_42 rfl ?_
    refine px_iconst (v := nI 0) dX6_care_43 (by decide) ?_
    refine px_callV (M2 := mX6_goOn) (c_X6_goOn hI2 k (by omega) (by show (O.1.1 0).2 4 + k < 2 ^ 30; omega) (nI 0) hm0 hb0) mw_X6_goOn wm_X6_goOn we_X6_goOn (Or.inl ml_X6_144) dX6_care_44 MH_obj rfl (by decide) rfl rfl (Nat.le_of_ble_eq_true rfl) ⟨Nat.zero_le _, Nat.zero_le _⟩ (fun v h2 hq => ?_)
    obtain ⟨rfl, D3, hI3, rfl⟩ := hq
    refine px_aload_n dX6_care_47 rfl ?_
    refine px_get xk_X6 8 dX6_care_48 (Or.inl fl_X6_26) MH_obj (by decide) rfl ?_
    refine px_bipush (v := nI 21) dX6_care_51 (by decide) ?_
    refine px_bL (b := 1) rfl dX6_care_53 (by decide) (by omega) (hI3.2.1.sw) ?_
    refine px_iload_n dX6_care_54 rfl ?_
    refine px_si (c_X6_has_n ((tnights (tSA (O.1.1 0) 3 a j) hm0 k).2 3) a (by have := hI3.2.2.1.2.2.2.1; omega) (by omega)) mw_X6_has wt_X6_has (Or.inl ml_X6_50) dX6_care_55 (by decide) rfl rfl (Nat.le_of_ble_eq_true rfl) ⟨rfl, rfl⟩ ?_
    refine px_if_eqB 63 dX6_care_58 (by decide) (fun c58 => ?_) (fun c58 => ?_)
    · refine px_inc_3 dX6_care_63 rfl (dI_dec _) (by decide) rfl ?_
      refine px_goto 23 dX6_care_66 (by decide) ?_
      rw [fdown_n (p := pCa (O.1.1 0) a k) c58]
      exact ih (by omega) _ hI3.1
    · refine px_iload_n dX6_care_61 rfl ?_
      exact px_iret dX6_care_62 rfl rfl rfl ⟨(by rw [fdown_y (p := pCa (O.1.1 0) a k) c58]; rfl), _, hI3.1, rfl⟩
set_option maxHeartbeats 4000000 in
set_option maxRecDepth 100000 in
theorem c_X6_care_n {E : xE} {h : xHp} {w : Nat} {D : xMd} {O : xO} (hR : Rel O D) (x y : Int32) (hx : ¬ ((0 ≤ x ∧ x < nI ((O.1.1 0).2 0)) ∧ (nI 1 ≤ y ∧ y ≤ nI 40))) : PMX E mX6_care [.ref w, .int x, .int y] h w D (-1) O := by
  have R := hR.1.1
  have hOK := hR.1.2.1.1
  have hm6 := hOK.1.1
  have hm4 := hOK.1.2.1
  have hN9 := hR.1.2.1.2
  refine pm_of [some (.ref w), some (.int x), some (.int y), none] (by decide +kernel) (Nat.le_of_ble_eq_true rfl) rfl ?_
  refine px_aload_n dX6_care_0 rfl ?_
  refine px_iload_n dX6_care_1 rfl ?_
  refine px_vi (M2 := mX6_isOne) (c_X6_isOne R hOK x) mw_X6_isOne wm_X6_isOne we_X6_isOne (Or.inl ml_X6_58) dX6_care_2 (MH_obj) rfl (by decide) rfl rfl (Nat.le_of_ble_eq_true rfl) ⟨rfl, rfl⟩ ?_
  refine px_if_eqB 18 dX6_care_5 (by decide) (fun c5 => ?_) (fun c5 => ?_)
  · refine px_iconst (v := -1) dX6_care_18 (by decide) ?_
    exact px_iret dX6_care_19 rfl rfl rfl ⟨rfl, D, hR, rfl⟩
  · refine px_iload_n dX6_care_8 rfl ?_
    refine px_iconst (v := nI 1) dX6_care_9 (by decide) ?_
    refine px_bipush (v := nI 40) dX6_care_10 (by decide) ?_
    refine px_si (c_X6_in (y) (nI 1) (nI 40)) mw_X6_in wt_X6_in (Or.inl ml_X6_38) dX6_care_12 (by decide) rfl rfl (Nat.le_of_ble_eq_true rfl) ⟨rfl, rfl⟩ ?_
    refine px_if_neB 20 dX6_care_15 (by decide) (fun c15 => ?_) (fun c15 => ?_)
    · exact absurd ⟨of_decide_eq_true c5, of_decide_eq_true c15⟩ hx
    · refine px_iconst (v := -1) dX6_care_18 (by decide) ?_
      exact px_iret dX6_care_19 rfl rfl rfl ⟨rfl, D, hR, rfl⟩
set_option maxHeartbeats 4000000 in
set_option maxRecDepth 100000 in
theorem c_X6_care {E : xE} {h : xHp} {w : Nat} {D : xMd} {O : xO} (hR : Rel O D) (a k : Nat) (ha : a < (O.1.1 0).2 0) (h1 : 1 ≤ k) (hk : k ≤ 40) : PMX E mX6_care [.ref w, .int (nI a), .int (nI k)] h w D (oI (fdown (pCa (O.1.1 0) a k) 10)) O := by
  have R := hR.1.1
  have hOK := hR.1.2.1.1
  have hm6 := hOK.1.1
  have hm4 := hOK.1.2.1
  have hN9 := hR.1.2.1.2
  refine pm_of [some (.ref w), some (.int (nI a)), some (.int (nI k)), none] (by decide +kernel) (Nat.le_of_ble_eq_true rfl) rfl ?_
  refine px_aload_n dX6_care_0 rfl ?_
  refine px_iload_n dX6_care_1 rfl ?_
  refine px_vi (M2 := mX6_isOne) (c_m1_y R hOK ha) mw_X6_isOne wm_X6_isOne we_X6_isOne (Or.inl ml_X6_58) dX6_care_2 (MH_obj) rfl (by decide) rfl rfl (Nat.le_of_ble_eq_true rfl) ⟨rfl, rfl⟩ ?_
  refine px_if_eqB 18 dX6_care_5 (by decide) (fun c5 => ?_) (fun c5 => ?_)
  · cases c5
  · refine px_iload_n dX6_care_8 rfl ?_
    refine px_iconst (v := nI 1) dX6_care_9 (by decide) ?_
    refine px_bipush (v := nI 40) dX6_care_10 (by decide) ?_
    refine px_si (c_X6_in (nI k) (nI 1) (nI 40)) mw_X6_in wt_X6_in (Or.inl ml_X6_38) dX6_care_12 (by decide) rfl rfl (Nat.le_of_ble_eq_true rfl) ⟨rfl, rfl⟩ ?_
    refine px_if_neB 20 dX6_care_15 (by decide) (fun c15 => ?_) (fun c15 => ?_)
    · refine px_bipush (v := nI 9) dX6_care_20 (by decide) ?_
      refine px_istn_3 dX6_care_22 (by decide) rfl ?_
      exact l_X6_care a k ha h1 hk 10 (by omega) D hR
    · rw [in_t (by omega) (by omega) (by decide)] at c15
      cases c15
set_option maxHeartbeats 4000000 in
set_option maxRecDepth 100000 in
theorem l_X6_spare {E : xE} {h : xHp} {w : Nat} {O : xO} (k u : Nat) (h1 : 1 ≤ k) (hk : k ≤ 40) (hu : u ≤ 1) : ∀ (n i : Nat) (D : xMd), i ≤ (O.1.1 0).2 1 → (O.1.1 0).2 1 + 1 ≤ i + n → Rel O D → PW E mX6_spare (fun v h1 => v = some (.int (tspa (O.1.1 0) k u)) ∧ ∃ D', Rel O D' ∧ h1 = MH E h w D') 0 0 31 [some (.ref w), some (.int (nI k)), some (.int (nI u)), some (.int (oI (tspr (O.1.1 0) k i))), some (.int (mB (O.1.1 0) k (tspr (O.1.1 0) k i))), some (.int (nI i))] [] (MH E h w D) := by
  intro n
  induction n with
  | zero =>
    intro i D h2 h3 hR
    omega
  | succ n ih =>
    intro i D h2 h3 hR
    have R := hR.1.1
    have hOK := hR.1.2.1.1
    have hm6 := hOK.1.1
    have hm4 := hOK.1.2.1
    have hN9 := hR.1.2.1.2
    rcases hv : tspr (O.1.1 0) k i with _ | bb
    · refine px_eq (lo2 := [some (.ref w), some (.int (nI k)), some (.int (nI u)), some (.int (-4)), some (.int (-4)), some (.int (nI i))]) rfl rfl rfl ?_
      refine px_iload dX6_spare_31 rfl ?_
      refine px_aload_n dX6_spare_33 rfl ?_
      refine px_get xk_X6 7 dX6_spare_34 (Or.inl fl_X6_23) MH_obj (by decide) rfl ?_
      refine px_bipush (v := nI 30) dX6_spare_37 (by decide) ?_
      refine px_bL (b := 0) rfl dX6_spare_39 (by decide) (by omega) (R.th) ?_
      refine px_icmp_geN 98 dX6_spare_40 (by decide) (by omega) (by omega) (fun c40 => ?_) (fun c40 => ?_)
      · refine px_iload_n dX6_spare_98 rfl ?_
        refine px_if_neN 106 dX6_spare_99 (by decide) (by omega) (fun c99 => ?_) (fun c99 => ?_)
        · refine px_iload dX6_spare_106 rfl ?_
          have hi : i = (O.1.1 0).2 1 := by omega
          subst hi
          exact px_iret dX6_spare_108 rfl rfl rfl ⟨(by show _ = some (Value.int (tspO (O.1.1 0) k (tspr (O.1.1 0) k ((O.1.1 0).2 1)) u)); rw [hv]; rfl), D, hR, rfl⟩
        · refine px_iload_n dX6_spare_102 rfl ?_
          refine px_goto 108 dX6_spare_103 (by decide) ?_
          have hi : i = (O.1.1 0).2 1 := by omega
          subst hi
          exact px_iret dX6_spare_108 rfl rfl rfl ⟨(by show _ = some (Value.int (tspO (O.1.1 0) k (tspr (O.1.1 0) k ((O.1.1 0).2 1)) u)); rw [hv]; rfl), D, hR, rfl⟩
      · refine px_aload_n dX6_spare_43 rfl ?_
        refine px_callV (M2 := mX6_begin) (c_X6_begin hR) mw_X6_begin wm_X6_begin we_X6_begin (Or.inl ml_X6_141) dX6_spare_44 MH_obj rfl (by decide) rfl rfl (Nat.le_of_ble_eq_true rfl) ⟨Nat.zero_le _, Nat.zero_le _⟩ (fun v h2 hq => ?_)
        obtain ⟨rfl, D1, hI1, rfl⟩ := hq
        refine px_aload_n dX6_spare_47 rfl ?_
        refine px_iload_n dX6_spare_48 rfl ?_
        refine px_iconst (v := nI 1) dX6_spare_49 (by decide) ?_
        refine px_iload dX6_spare_50 rfl ?_
        refine px_ishl1 dX6_spare_52 (by omega) ?_
        refine px_callV (M2 := mX6_goOn) (c_X6_goOn hI1 k (by omega) (by omega) (nI (2 ^ i)) (fun q => decide (q = i)) (hbit_1 (by omega))) mw_X6_goOn wm_X6_goOn we_X6_goOn (Or.inl ml_X6_144) dX6_spare_53 MH_obj rfl (by decide) rfl rfl (Nat.le_of_ble_eq_true rfl) ⟨Nat.zero_le _, Nat.zero_le _⟩ (fun v h2 hq => ?_)
        obtain ⟨rfl, D2, hI2, rfl⟩ := hq
        refine px_iload_n dX6_spare_56 rfl ?_
        refine px_bipush (v := -4) dX6_spare_57 (by decide) ?_
        refine px_icmp_eq 77 dX6_spare_59 (by decide) (fun _ => ?_) (fun z => absurd z (by decide))
        refine px_iload dX6_spare_77 rfl ?_
        refine px_istn_3 dX6_spare_79 (by decide) rfl ?_
        refine px_aload_n dX6_spare_80 rfl ?_
        refine px_get xk_X6 8 dX6_spare_81 (Or.inl fl_X6_26) MH_obj (by decide) rfl ?_
        refine px_bipush (v := nI 21) dX6_spare_84 (by decide) ?_
        refine px_bL (b := 1) rfl dX6_spare_86 (by decide) (by omega) (hI2.2.1.sw) ?_
        refine px_si (c_X6_bits _ hI2.2.2.1.2.2.2.1) mw_X6_bits wt_X6_bits (Or.inl ml_X6_152) dX6_spare_87 (by decide) rfl rfl (Nat.le_of_ble_eq_true rfl) ⟨rfl, rfl⟩ ?_
        refine px_topi (show _ = nI (twout (O.1.1 0) k i) from rfl) ?_
        refine px_ist_4 dX6_spare_90 (by decide) rfl ?_
        refine px_inc_5 dX6_spare_92 rfl (nI_1 _) (by decide) rfl ?_
        refine px_goto 31 dX6_spare_95 (by decide) ?_
        refine px_eq (lo2 := [some (.ref w), some (.int (nI k)), some (.int (nI u)), some (.int (oI (tspr (O.1.1 0) k (i + 1)))), some (.int (mB (O.1.1 0) k (tspr (O.1.1 0) k (i + 1)))), some (.int (nI (i + 1)))]) ?_ rfl rfl (ih (i + 1) D2 (by omega) (by omega) hI2.1)
        simp only [tspr, hv]
        try rfl
    · have hbb := tspr_lt hv
      have hw2 := twout_le (O.1.1 0) k bb
      have hw1 := twout_le (O.1.1 0) k i
      refine px_eq (lo2 := [some (.ref w), some (.int (nI k)), some (.int (nI u)), some (.int (nI bb)), some (.int (nI (twout (O.1.1 0) k bb))), some (.int (nI i))]) rfl rfl rfl ?_
      refine px_iload dX6_spare_31 rfl ?_
      refine px_aload_n dX6_spare_33 rfl ?_
      refine px_get xk_X6 7 dX6_spare_34 (Or.inl fl_X6_23) MH_obj (by decide) rfl ?_
      refine px_bipush (v := nI 30) dX6_spare_37 (by decide) ?_
      refine px_bL (b := 0) rfl dX6_spare_39 (by decide) (by omega) (R.th) ?_
      refine px_icmp_geN 98 dX6_spare_40 (by decide) (by omega) (by omega) (fun c40 => ?_) (fun c40 => ?_)
      · refine px_iload_n dX6_spare_98 rfl ?_
        refine px_if_neN 106 dX6_spare_99 (by decide) (by omega) (fun c99 => ?_) (fun c99 => ?_)
        · refine px_iload dX6_spare_106 rfl ?_
          have hi : i = (O.1.1 0).2 1 := by omega
          subst hi
          exact px_iret dX6_spare_108 rfl rfl rfl ⟨(by show _ = some (Value.int (tspO (O.1.1 0) k (tspr (O.1.1 0) k ((O.1.1 0).2 1)) u)); rw [hv]; show _ = some (Value.int (if u = 0 then nI bb else nI (twout (O.1.1 0) k bb))); rw [if_neg c99]), D, hR, rfl⟩
        · refine px_iload_n dX6_spare_102 rfl ?_
          refine px_goto 108 dX6_spare_103 (by decide) ?_
          have hi : i = (O.1.1 0).2 1 := by omega
          subst hi
          exact px_iret dX6_spare_108 rfl rfl rfl ⟨(by show _ = some (Value.int (tspO (O.1.1 0) k (tspr (O.1.1 0) k ((O.1.1 0).2 1)) u)); rw [hv]; show _ = some (Value.int (if u = 0 then nI bb else nI (twout (O.1.1 0) k bb))); rw [if_pos c99]), D, hR, rfl⟩
      · refine px_aload_n dX6_spare_43 rfl ?_
        refine px_callV (M2 := mX6_begin) (c_X6_begin hR) mw_X6_begin wm_X6_begin we_X6_begin (Or.inl ml_X6_141) dX6_spare_44 MH_obj rfl (by decide) rfl rfl (Nat.le_of_ble_eq_true rfl) ⟨Nat.zero_le _, Nat.zero_le _⟩ (fun v h2 hq => ?_)
        obtain ⟨rfl, D1, hI1, rfl⟩ := hq
        refine px_aload_n dX6_spare_47 rfl ?_
        refine px_iload_n dX6_spare_48 rfl ?_
        refine px_iconst (v := nI 1) dX6_spare_49 (by decide) ?_
        refine px_iload dX6_spare_50 rfl ?_
        refine px_ishl1 dX6_spare_52 (by omega) ?_
        refine px_callV (M2 := mX6_goOn) (c_X6_goOn hI1 k (by omega) (by omega) (nI (2 ^ i)) (fun q => decide (q = i)) (hbit_1 (by omega))) mw_X6_goOn wm_X6_goOn we_X6_goOn (Or.inl ml_X6_144) dX6_spare_53 MH_obj rfl (by decide) rfl rfl (Nat.le_of_ble_eq_true rfl) ⟨Nat.zero_le _, Nat.zero_le _⟩ (fun v h2 hq => ?_)
        obtain ⟨rfl, D2, hI2, rfl⟩ := hq
        refine px_iload_n dX6_spare_56 rfl ?_
        refine px_bipush (v := -4) dX6_spare_57 (by decide) ?_
        refine px_icmp_eq 77 dX6_spare_59 (by decide) (fun c59 => ?_) (fun c59 => ?_)
        · exact absurd c59 (nI_m4 (by omega))
        · refine px_aload_n dX6_spare_62 rfl ?_
          refine px_get xk_X6 8 dX6_spare_63 (Or.inl fl_X6_26) MH_obj (by decide) rfl ?_
          refine px_bipush (v := nI 21) dX6_spare_66 (by decide) ?_
          refine px_bL (b := 1) rfl dX6_spare_68 (by decide) (by omega) (hI2.2.1.sw) ?_
          refine px_si (c_X6_bits _ hI2.2.2.1.2.2.2.1) mw_X6_bits wt_X6_bits (Or.inl ml_X6_152) dX6_spare_69 (by decide) rfl rfl (Nat.le_of_ble_eq_true rfl) ⟨rfl, rfl⟩ ?_
          refine px_topi (show _ = nI (twout (O.1.1 0) k i) from rfl) ?_
          refine px_iload dX6_spare_72 rfl ?_
          refine px_icmp_leN 92 dX6_spare_74 (by decide) (by omega) (by omega) (fun c74 => ?_) (fun c74 => ?_)
          · refine px_inc_5 dX6_spare_92 rfl (nI_1 _) (by decide) rfl ?_
            refine px_goto 31 dX6_spare_95 (by decide) ?_
            refine px_eq (lo2 := [some (.ref w), some (.int (nI k)), some (.int (nI u)), some (.int (oI (tspr (O.1.1 0) k (i + 1)))), some (.int (mB (O.1.1 0) k (tspr (O.1.1 0) k (i + 1)))), some (.int (nI (i + 1)))]) ?_ rfl rfl (ih (i + 1) D2 (by omega) (by omega) hI2.1)
            simp only [tspr, hv, if_neg (Nat.not_lt.mpr c74)]
            try rfl
          · refine px_iload dX6_spare_77 rfl ?_
            refine px_istn_3 dX6_spare_79 (by decide) rfl ?_
            refine px_aload_n dX6_spare_80 rfl ?_
            refine px_get xk_X6 8 dX6_spare_81 (Or.inl fl_X6_26) MH_obj (by decide) rfl ?_
            refine px_bipush (v := nI 21) dX6_spare_84 (by decide) ?_
            refine px_bL (b := 1) rfl dX6_spare_86 (by decide) (by omega) (hI2.2.1.sw) ?_
            refine px_si (c_X6_bits _ hI2.2.2.1.2.2.2.1) mw_X6_bits wt_X6_bits (Or.inl ml_X6_152) dX6_spare_87 (by decide) rfl rfl (Nat.le_of_ble_eq_true rfl) ⟨rfl, rfl⟩ ?_
            refine px_topi (show _ = nI (twout (O.1.1 0) k i) from rfl) ?_
            refine px_ist_4 dX6_spare_90 (by decide) rfl ?_
            refine px_inc_5 dX6_spare_92 rfl (nI_1 _) (by decide) rfl ?_
            refine px_goto 31 dX6_spare_95 (by decide) ?_
            refine px_eq (lo2 := [some (.ref w), some (.int (nI k)), some (.int (nI u)), some (.int (oI (tspr (O.1.1 0) k (i + 1)))), some (.int (mB (O.1.1 0) k (tspr (O.1.1 0) k (i + 1)))), some (.int (nI (i + 1)))]) ?_ rfl rfl (ih (i + 1) D2 (by omega) (by omega) hI2.1)
            simp only [tspr, hv, if_pos c74]
            try rfl
set_option maxHeartbeats 4000000 in
set_option maxRecDepth 100000 in
theorem c_X6_spare_n {E : xE} {h : xHp} {w : Nat} {D : xMd} {O : xO} (hR : Rel O D) (x y : Int32) (hx : ¬ ((nI 1 ≤ x ∧ x ≤ nI 40) ∧ (nI 0 ≤ y ∧ y ≤ nI 1))) : PMX E mX6_spare [.ref w, .int x, .int y] h w D (-1) O := by
  have R := hR.1.1
  have hOK := hR.1.2.1.1
  have hm6 := hOK.1.1
  have hm4 := hOK.1.2.1
  have hN9 := hR.1.2.1.2
  refine pm_of [some (.ref w), some (.int x), some (.int y), none, none, none] (by decide +kernel) (Nat.le_of_ble_eq_true rfl) rfl ?_
  refine px_iload_n dX6_spare_0 rfl ?_
  refine px_iconst (v := nI 1) dX6_spare_1 (by decide) ?_
  refine px_bipush (v := nI 40) dX6_spare_2 (by decide) ?_
  refine px_si (c_X6_in (x) (nI 1) (nI 40)) mw_X6_in wt_X6_in (Or.inl ml_X6_38) dX6_spare_4 (by decide) rfl rfl (Nat.le_of_ble_eq_true rfl) ⟨rfl, rfl⟩ ?_
  refine px_if_eqB 19 dX6_spare_7 (by decide) (fun c7 => ?_) (fun c7 => ?_)
  · refine px_iconst (v := -1) dX6_spare_19 (by decide) ?_
    exact px_iret dX6_spare_20 rfl rfl rfl ⟨rfl, D, hR, rfl⟩
  · refine px_iload_n dX6_spare_10 rfl ?_
    refine px_iconst (v := nI 0) dX6_spare_11 (by decide) ?_
    refine px_iconst (v := nI 1) dX6_spare_12 (by decide) ?_
    refine px_si (c_X6_in (y) (nI 0) (nI 1)) mw_X6_in wt_X6_in (Or.inl ml_X6_38) dX6_spare_13 (by decide) rfl rfl (Nat.le_of_ble_eq_true rfl) ⟨rfl, rfl⟩ ?_
    refine px_if_neB 21 dX6_spare_16 (by decide) (fun c16 => ?_) (fun c16 => ?_)
    · exact absurd ⟨of_decide_eq_true c7, of_decide_eq_true c16⟩ hx
    · refine px_iconst (v := -1) dX6_spare_19 (by decide) ?_
      exact px_iret dX6_spare_20 rfl rfl rfl ⟨rfl, D, hR, rfl⟩
set_option maxHeartbeats 4000000 in
set_option maxRecDepth 100000 in
theorem c_X6_spare {E : xE} {h : xHp} {w : Nat} {D : xMd} {O : xO} (hR : Rel O D) (k u : Nat) (h1 : 1 ≤ k) (hk : k ≤ 40) (hu : u ≤ 1) : PMX E mX6_spare [.ref w, .int (nI k), .int (nI u)] h w D (tspa (O.1.1 0) k u) O := by
  have R := hR.1.1
  have hOK := hR.1.2.1.1
  have hm6 := hOK.1.1
  have hm4 := hOK.1.2.1
  have hN9 := hR.1.2.1.2
  refine pm_of [some (.ref w), some (.int (nI k)), some (.int (nI u)), none, none, none] (by decide +kernel) (Nat.le_of_ble_eq_true rfl) rfl ?_
  refine px_iload_n dX6_spare_0 rfl ?_
  refine px_iconst (v := nI 1) dX6_spare_1 (by decide) ?_
  refine px_bipush (v := nI 40) dX6_spare_2 (by decide) ?_
  refine px_si (c_X6_in (nI k) (nI 1) (nI 40)) mw_X6_in wt_X6_in (Or.inl ml_X6_38) dX6_spare_4 (by decide) rfl rfl (Nat.le_of_ble_eq_true rfl) ⟨rfl, rfl⟩ ?_
  refine px_if_eqB 19 dX6_spare_7 (by decide) (fun c7 => ?_) (fun c7 => ?_)
  · rw [in_t (by omega) (by omega) (by decide)] at c7
    cases c7
  · refine px_iload_n dX6_spare_10 rfl ?_
    refine px_iconst (v := nI 0) dX6_spare_11 (by decide) ?_
    refine px_iconst (v := nI 1) dX6_spare_12 (by decide) ?_
    refine px_si (c_X6_in (nI u) (nI 0) (nI 1)) mw_X6_in wt_X6_in (Or.inl ml_X6_38) dX6_spare_13 (by decide) rfl rfl (Nat.le_of_ble_eq_true rfl) ⟨rfl, rfl⟩ ?_
    refine px_if_neB 21 dX6_spare_16 (by decide) (fun c16 => ?_) (fun c16 => ?_)
    · refine px_bipush (v := -4) dX6_spare_21 (by decide) ?_
      refine px_istn_3 dX6_spare_23 (by decide) rfl ?_
      refine px_bipush (v := -4) dX6_spare_24 (by decide) ?_
      refine px_ist_4 dX6_spare_26 (by decide) rfl ?_
      refine px_iconst (v := nI 0) dX6_spare_28 (by decide) ?_
      refine px_ist_5 dX6_spare_29 (by decide) rfl ?_
      exact l_X6_spare k u h1 hk hu ((O.1.1 0).2 1 + 1) 0 D (Nat.zero_le _) (by omega) hR
    · rw [in_t (by omega) (by omega) (by decide)] at c16
      cases c16
