/-- the town's own doings -/
def tshow (T : xT) (a : Nat) (v : Bool) : xT := tSS T 2 (if v then T.2 2 ||| 2 ^ a else ndif (T.2 2) (2 ^ a))
def tlose (T : xT) (a : Nat) : xT := if T.2 5 ≤ T.1 2 a then tSS T 3 (T.2 3 ||| 2 ^ a) else tSA (tSA T 1 a ((T.1 1 a + 1) % 4)) 2 a 0
def tcl (T : xT) : Nat := if T.2 4 % 2 = 1 then 2 else 0
def tgrow (T : xT) (a : Nat) : Nat := if T.1 0 a = 1 then 4 else if T.1 0 a = 2 then tcl T else if T.1 0 a = 3 then (if (T.2 2).testBit a then 7 else 4) else if T.1 0 a = 4 then min (tcl T) (6 - T.1 2 a) else 2
theorem tcl_le (T : xT) : tcl T ≤ 2 := by unfold tcl; split <;> omega
theorem tgrow_le (T : xT) (a : Nat) : tgrow T a ≤ 7 := by
  have := tcl_le T
  unfold tgrow
  repeat' split
  all_goals omega
def tstep (T : xT) (rob a : Nat) : xT := if rob.testBit a then tlose T a else if (T.2 3).testBit a then T else tSA T 2 a (min 99 (T.1 2 a + tgrow T a))
def tsteps (T : xT) (rob : Nat) : Nat → xT
  | 0 => T
  | n + 1 => tstep (tsteps T rob n) rob n
def tpass (T : xT) (hm : Nat → Bool) : xT := tSS (tsteps T (trob T hm (T.2 1)) (T.2 0)) 4 (T.2 4 + 1)
def tdr1 (T : xT) : xT := tSS T 6 ((T.2 6 * 1103515245 + 12345) % 2147483648)
def tdr2 (T : xT) : xT := if T.2 0 = 0 then T else tshow T (T.2 6 / 65536 % T.2 0) (decide (T.2 6 / 128 % 2 = 0))
def tdraw (T : xT) : xT := tdr2 (tdr1 T)
def twhom (T : xT) (t : Nat) : Nat → Nat
  | 0 => 0
  | n + 1 => if tmay T t n then twhom T t n ||| 2 ^ n else twhom T t n
def twho (T : xT) (a : Nat) : Nat → Nat
  | 0 => 0
  | n + 1 => if tmay T n a then twho T a n ||| 2 ^ n else twho T a n
def tsum (T : xT) : Nat → Nat
  | 0 => 0
  | n + 1 => if (T.2 3).testBit n then tsum T n else tsum T n + T.1 2 n
theorem tSA_ok {T : xT} {j i v : Nat} (h : tOK T) (hv : (j = 0 ∧ v ≤ 4) ∨ (j = 1 ∧ v ≤ 3) ∨ (j = 2 ∧ v ≤ 99) ∨ (j = 3 ∧ v ≤ 9) ∨ (j = 4 ∧ v ≤ 9) ∨ (j = 5 ∧ v ≤ 4)) : tOK (tSA T j i v) := by
  obtain ⟨h6, h0, h1, h2, h3, h4, h5⟩ := h
  refine ⟨h6, ?_, ?_, ?_, ?_, ?_, ?_⟩ <;> intro q <;> simp only [tSA]
  · have := h0 q; split <;> omega
  · have := h1 q; split <;> omega
  · have := h2 q; split <;> omega
  · have := h3 q; split <;> omega
  · have := h4 q; split <;> omega
  · have := h5 q; split <;> omega
theorem tSS_ok {T : xT} {j v : Nat} (h : tOK T) (hv : (j = 0 ∧ v ≤ 6) ∨ (j = 1 ∧ v ≤ 4) ∨ (j = 2 ∧ v < 64) ∨ (j = 3 ∧ v < 64) ∨ (j = 4 ∧ v < 2 ^ 30) ∨ (j = 5 ∧ v ≤ 99) ∨ (j = 6 ∧ v < 2 ^ 31)) : tOK (tSS T j v) := by
  obtain ⟨⟨a0, a1, a2, a3, a4, a5, a6⟩, h0⟩ := h
  refine ⟨⟨?_, ?_, ?_, ?_, ?_, ?_, ?_⟩, h0⟩ <;> simp only [tSS] <;> split <;> omega
theorem tshow_ok {T : xT} {a : Nat} {v : Bool} (h : tOK T) (ha : a < 6) : tOK (tshow T a v) := by
  have h2 := h.1.2.2.1
  refine tSS_ok h (Or.inr (Or.inr (Or.inl ⟨rfl, ?_⟩)))
  cases v
  · exact ndif_lt (n := 6) h2
  · exact or_lt64 h2 ha
theorem tlose_ok {T : xT} {a : Nat} (h : tOK T) (ha : a < 6) : tOK (tlose T a) := by
  unfold tlose
  split
  · exact tSS_ok h (Or.inr (Or.inr (Or.inr (Or.inl ⟨rfl, or_lt64 h.1.2.2.2.1 ha⟩))))
  · exact tSA_ok (tSA_ok h (by omega)) (by omega)
theorem tstep_ok {T : xT} {rob a : Nat} (h : tOK T) (ha : a < 6) : tOK (tstep T rob a) := by
  unfold tstep
  split
  · exact tlose_ok h ha
  · split
    · exact h
    · exact tSA_ok h (by omega)
theorem tstep_s {T : xT} {rob a : Nat} : (tstep T rob a).2 0 = T.2 0 ∧ (tstep T rob a).2 1 = T.2 1 ∧ (tstep T rob a).2 2 = T.2 2 ∧ (tstep T rob a).2 4 = T.2 4 ∧ (tstep T rob a).2 5 = T.2 5 ∧ (tstep T rob a).2 6 = T.2 6 := by
  unfold tstep tlose
  split
  · split <;> simp [tSS, tSA]
  · split
    · exact ⟨rfl, rfl, rfl, rfl, rfl, rfl⟩
    · simp [tSA]
theorem tsteps_ok {T : xT} {rob : Nat} (h : tOK T) : ∀ n, n ≤ 6 → tOK (tsteps T rob n)
  | 0, _ => h
  | n + 1, hn => tstep_ok (tsteps_ok h n (by omega)) (by omega)
theorem tsteps_s {T : xT} {rob : Nat} : ∀ n, (tsteps T rob n).2 0 = T.2 0 ∧ (tsteps T rob n).2 1 = T.2 1 ∧ (tsteps T rob n).2 2 = T.2 2 ∧ (tsteps T rob n).2 4 = T.2 4 ∧ (tsteps T rob n).2 5 = T.2 5 ∧ (tsteps T rob n).2 6 = T.2 6
  | 0 => ⟨rfl, rfl, rfl, rfl, rfl, rfl⟩
  | n + 1 => by
    have h1 := tstep_s (T := tsteps T rob n) (rob := rob) (a := n)
    have h2 := tsteps_s (T := T) (rob := rob) n
    show (tstep (tsteps T rob n) rob n).2 0 = T.2 0 ∧ _
    exact ⟨h1.1.trans h2.1, h1.2.1.trans h2.2.1, h1.2.2.1.trans h2.2.2.1, h1.2.2.2.1.trans h2.2.2.2.1, h1.2.2.2.2.1.trans h2.2.2.2.2.1, h1.2.2.2.2.2.trans h2.2.2.2.2.2⟩
theorem tpass_ok {T : xT} {hm : Nat → Bool} (h : tOK T) (hn : T.2 4 + 1 < 2 ^ 30) : tOK (tpass T hm) := tSS_ok (tsteps_ok h _ h.1.1) (by omega)
theorem tpass_s {T : xT} {hm : Nat → Bool} : (tpass T hm).2 0 = T.2 0 ∧ (tpass T hm).2 1 = T.2 1 ∧ (tpass T hm).2 2 = T.2 2 ∧ (tpass T hm).2 4 = T.2 4 + 1 ∧ (tpass T hm).2 5 = T.2 5 ∧ (tpass T hm).2 6 = T.2 6 := by
  have h2 := tsteps_s (T := T) (rob := trob T hm (T.2 1)) (T.2 0)
  simp only [tpass, tSS]
  exact ⟨h2.1, h2.2.1, h2.2.2.1, rfl, h2.2.2.2.2.1, h2.2.2.2.2.2⟩
theorem tdr1_ok {T : xT} (h : tOK T) : tOK (tdr1 T) := tSS_ok h (by omega)
theorem tdr2_ok {T : xT} (h : tOK T) : tOK (tdr2 T) := by
  have h6 := h.1.1
  unfold tdr2
  split
  · exact h
  · refine tshow_ok h ?_
    have := Nat.mod_lt (T.2 6 / 65536) (show 0 < T.2 0 by omega)
    omega
theorem tdraw_ok {T : xT} (h : tOK T) : tOK (tdraw T) := tdr2_ok (tdr1_ok h)
theorem twhom_lt {T : xT} {t : Nat} : ∀ n, n ≤ 6 → twhom T t n < 64
  | 0, _ => by rw [twhom]; decide
  | n + 1, h => by
    rw [twhom]
    split
    · exact or_lt64 (twhom_lt n (by omega)) (by omega)
    · exact twhom_lt n (by omega)
theorem twho_lt {T : xT} {a : Nat} : ∀ n, n ≤ 4 → twho T a n < 64
  | 0, _ => by rw [twho]; decide
  | n + 1, h => by
    rw [twho]
    split
    · exact or_lt64 (twho_lt n (by omega)) (by omega)
    · exact twho_lt n (by omega)
set_option maxHeartbeats 4000000 in
set_option maxRecDepth 100000 in
theorem l_X4_robbed {E : xE} {h : xHp} {b : Nat} {T : xT} (hOK : tOK T) (x : Int32) (hm : Nat → Bool) (hx : ∀ i, i < 4 → hbit x i = hm i) : ∀ (n i : Nat), i ≤ T.2 1 → T.2 1 + 1 ≤ i + n → PW E mX4_robbedTonight (fun v h1 => v = some (.int (nI (trob T hm (T.2 1)))) ∧ h1 = TH E h b T) 0 0 4 [some (.ref b), some (.int x), some (.int (nI (trob T hm i))), some (.int (nI i)), none] [] (TH E h b T) := by
  have hm4 := hOK.1.2.1
  have hm6 := hOK.1.1
  intro n
  induction n with
  | zero =>
    intro i h1 h2
    omega
  | succ n ih =>
    intro i h1 h2
    refine px_iload_n dX4_robbedTonight_4 rfl ?_
    refine px_aload_n dX4_robbedTonight_5 rfl ?_
    refine px_tS 1 dX4_robbedTonight_6 (Or.inl fl_X4_46) (by decide) ?_
    refine px_icmp_geN 51 dX4_robbedTonight_9 (by decide) (by first | omega | exact hOK.lt (by decide) | exact hOK.lts (by decide)) (by first | omega | exact hOK.lt (by decide) | exact hOK.lts (by decide)) (fun c9 => ?_) (fun c9 => ?_)
    · refine px_iload_n dX4_robbedTonight_51 rfl ?_
      have hi : i = T.2 1 := by omega
      subst hi
      exact px_iret dX4_robbedTonight_52 rfl rfl rfl ⟨rfl, rfl⟩
    · refine px_iload_n dX4_robbedTonight_12 rfl ?_
      refine px_iload_n dX4_robbedTonight_13 rfl ?_
      refine px_si (c_X5_has x i) mw_X5_has wt_X5_has (Or.inr ⟨_, ml_X4_62⟩) dX4_robbedTonight_14 (by decide) rfl rfl (Nat.le_of_ble_eq_true rfl) ⟨rfl, rfl⟩ ?_
      refine px_if_eqB 25 dX4_robbedTonight_17 (by decide) (fun c17 => ?_) (fun c17 => ?_)
      · refine px_aload_n dX4_robbedTonight_25 rfl ?_
        refine px_iload_n dX4_robbedTonight_26 rfl ?_
        refine px_iload_n dX4_robbedTonight_27 rfl ?_
        refine px_vi (M2 := mX4_victim) (c_X4_victim hOK i (trob T hm i) (by omega) (trob_lt hOK.1.1 _)) mw_X4_victim wm_X4_victim we_X4_victim (Or.inl ml_X4_69) dX4_robbedTonight_28 (TH_obj) rfl (by decide) rfl rfl (Nat.le_of_ble_eq_true rfl) ⟨rfl, rfl⟩ ?_
        rcases hv : tvic T i (trob T hm i) (T.2 0) with _ | bb
        · refine px_topi (show oI none = -4 from rfl) ?_
          refine px_ist_4 dX4_robbedTonight_31 (by decide) rfl ?_
          refine px_iload dX4_robbedTonight_33 rfl ?_
          refine px_if_lt 45 dX4_robbedTonight_35 (by decide) (fun _ => ?_) (fun z => absurd z (by decide))
          refine px_inc_3 dX4_robbedTonight_45 rfl (nI_1 _) (by decide) rfl ?_
          refine px_goto 4 dX4_robbedTonight_48 (by decide) ?_
          refine px_fg_4 ?_
          refine px_eq (lo2 := [some (.ref b), some (.int x), some (.int (nI (trob T hm (i + 1)))), some (.int (nI (i + 1))), none]) ?_ rfl rfl (ih (i + 1) (by omega) (by omega))
          have hh := hx i (by omega)
          rw [c17] at hh
          first | (rw [trob, if_pos hh.symm]; done) | (rw [trob, ← hh, hv]; done) | (rw [trob, ← hh, hv]; rfl)
        · have hbb := tvic_lt hv
          refine px_topi (show oI (some bb) = nI bb from rfl) ?_
          refine px_ist_4 dX4_robbedTonight_31 (by decide) rfl ?_
          refine px_iload dX4_robbedTonight_33 rfl ?_
          refine px_if_ltN 45 dX4_robbedTonight_35 (by decide) (by first | omega | exact hOK.lt (by decide) | exact hOK.lts (by decide)) ?_
          refine px_iload_n dX4_robbedTonight_38 rfl ?_
          refine px_iconst (v := nI 1) dX4_robbedTonight_39 (by decide) ?_
          refine px_iload dX4_robbedTonight_40 rfl ?_
          refine px_ishl1 dX4_robbedTonight_42 (by omega) ?_
          refine px_iorN dX4_robbedTonight_43 ?_
          refine px_istn_2 dX4_robbedTonight_44 (by decide) rfl ?_
          refine px_inc_3 dX4_robbedTonight_45 rfl (nI_1 _) (by decide) rfl ?_
          refine px_goto 4 dX4_robbedTonight_48 (by decide) ?_
          refine px_fg_4 ?_
          refine px_eq (lo2 := [some (.ref b), some (.int x), some (.int (nI (trob T hm (i + 1)))), some (.int (nI (i + 1))), none]) ?_ rfl rfl (ih (i + 1) (by omega) (by omega))
          have hh := hx i (by omega)
          rw [c17] at hh
          first | (rw [trob, if_pos hh.symm]; done) | (rw [trob, ← hh, hv]; done) | (rw [trob, ← hh, hv]; rfl)
      · refine px_bipush (v := -4) dX4_robbedTonight_20 (by decide) ?_
        refine px_goto 31 dX4_robbedTonight_22 (by decide) ?_
        refine px_ist_4 dX4_robbedTonight_31 (by decide) rfl ?_
        refine px_iload dX4_robbedTonight_33 rfl ?_
        refine px_if_lt 45 dX4_robbedTonight_35 (by decide) (fun _ => ?_) (fun z => absurd z (by decide))
        refine px_inc_3 dX4_robbedTonight_45 rfl (nI_1 _) (by decide) rfl ?_
        refine px_goto 4 dX4_robbedTonight_48 (by decide) ?_
        refine px_fg_4 ?_
        refine px_eq (lo2 := [some (.ref b), some (.int x), some (.int (nI (trob T hm (i + 1)))), some (.int (nI (i + 1))), none]) ?_ rfl rfl (ih (i + 1) (by omega) (by omega))
        have hh := hx i (by omega)
        rw [c17] at hh
        first | (rw [trob, if_pos hh.symm]; done) | (rw [trob, ← hh, hv]; done) | (rw [trob, ← hh, hv]; rfl)
set_option maxHeartbeats 4000000 in
set_option maxRecDepth 100000 in
theorem c_X4_robbed {E : xE} {h : xHp} {b : Nat} {T : xT} (hOK : tOK T) (x : Int32) (hm : Nat → Bool) (hx : ∀ i, i < 4 → hbit x i = hm i) : PMI E mX4_robbedTonight [.ref b, .int x] (TH E h b T) (nI (trob T hm (T.2 1))) (TH E h b T) := by
  refine pm_of [some (.ref b), some (.int x), none, none, none] (by decide +kernel) (Nat.le_of_ble_eq_true rfl) rfl ?_
  refine px_iconst (v := nI 0) dX4_robbedTonight_0 (by decide) ?_
  refine px_istn_2 dX4_robbedTonight_1 (by decide) rfl ?_
  refine px_iconst (v := nI 0) dX4_robbedTonight_2 (by decide) ?_
  refine px_istn_3 dX4_robbedTonight_3 (by decide) rfl ?_
  exact l_X4_robbed hOK x hm hx (T.2 1 + 1) 0 (Nat.zero_le _) (by omega)
set_option maxHeartbeats 4000000 in
set_option maxRecDepth 100000 in
theorem c_X4_lose {E : xE} {h : xHp} {b : Nat} {T : xT} (hOK : tOK T) (a : Nat) (ha : a < 6) : PMV E mX4_lose [.ref b, .int (nI a)] (TH E h b T) (TH E h b (tlose T a)) := by
  refine pm_of [some (.ref b), some (.int (nI a))] (by decide +kernel) (Nat.le_of_ble_eq_true rfl) rfl ?_
  refine px_aload_n dX4_lose_0 rfl ?_
  refine px_tR 2 dX4_lose_1 (Or.inl fl_X4_18) (by decide) ?_
  refine px_iload_n dX4_lose_4 rfl ?_
  refine px_tL 2 dX4_lose_5 (by decide) (by show _ < 6; omega) ?_
  refine px_aload_n dX4_lose_6 rfl ?_
  refine px_tS 5 dX4_lose_7 (Or.inl fl_X4_30) (by decide) ?_
  refine px_icmp_ltN 28 dX4_lose_10 (by decide) (by first | omega | exact hOK.lt (by decide) | exact hOK.lts (by decide)) (by first | omega | exact hOK.lt (by decide) | exact hOK.lts (by decide)) (fun c10 => ?_) (fun c10 => ?_)
  · refine px_aload_n dX4_lose_28 rfl ?_
    refine px_tR 1 dX4_lose_29 (Or.inl fl_X4_15) (by decide) ?_
    refine px_iload_n dX4_lose_32 rfl ?_
    refine px_aload_n dX4_lose_33 rfl ?_
    refine px_tR 1 dX4_lose_34 (Or.inl fl_X4_15) (by decide) ?_
    refine px_iload_n dX4_lose_37 rfl ?_
    refine px_tL 1 dX4_lose_38 (by decide) (by show _ < 6; omega) ?_
    refine px_iconst (v := nI 1) dX4_lose_39 (by decide) ?_
    refine px_iaddN dX4_lose_40 ?_
    refine px_iconst (v := nI 4) dX4_lose_41 (by decide) ?_
    have q1 := hOK.2.2.1 a
    refine px_iremN dX4_lose_42 (by first | omega | exact hOK.lt (by decide) | exact hOK.lts (by decide)) (by first | omega | exact hOK.lt (by decide) | exact hOK.lts (by decide)) (by first | omega | exact hOK.lt (by decide) | exact hOK.lts (by decide)) ?_
    refine px_tW 1 dX4_lose_43 (by decide) (by show _ < 6; omega) ?_
    refine px_aload_n dX4_lose_44 rfl ?_
    refine px_tR 2 dX4_lose_45 (Or.inl fl_X4_18) (by decide) ?_
    refine px_iload_n dX4_lose_48 rfl ?_
    refine px_iconst (v := nI 0) dX4_lose_49 (by decide) ?_
    refine px_tW 2 dX4_lose_50 (by decide) (by show _ < 6; omega) ?_
    exact px_vret dX4_lose_51 rfl rfl rfl ⟨rfl, by unfold tlose; first | rw [if_pos c10] | rw [if_neg (Nat.not_le.mpr c10)]⟩
  · refine px_aload_n dX4_lose_13 rfl ?_
    refine px_dup dX4_lose_14 rfl ?_
    refine px_tS 3 dX4_lose_15 (Or.inl fl_X4_52) (by decide) ?_
    refine px_iconst (v := nI 1) dX4_lose_18 (by decide) ?_
    refine px_iload_n dX4_lose_19 rfl ?_
    refine px_ishl1 dX4_lose_20 (by omega) ?_
    refine px_iorN dX4_lose_21 ?_
    refine px_tP 3 dX4_lose_22 (Or.inl fl_X4_52) (by decide) ?_
    refine px_goto 51 dX4_lose_25 (by decide) ?_
    exact px_vret dX4_lose_51 rfl rfl rfl ⟨rfl, by unfold tlose; first | rw [if_pos c10] | rw [if_neg (Nat.not_le.mpr c10)]⟩
set_option maxHeartbeats 4000000 in
set_option maxRecDepth 100000 in
theorem c_X4_setShown {E : xE} {h : xHp} {b : Nat} {T : xT} (a : Nat) (v : Bool) (ha : a < 6) : PMV E mX4_setShown [.ref b, .int (nI a), .int (bI v)] (TH E h b T) (TH E h b (tshow T a v)) := by
  refine pm_of [some (.ref b), some (.int (nI a)), some (.int (bI v))] (by decide +kernel) (Nat.le_of_ble_eq_true rfl) rfl ?_
  refine px_aload_n dX4_setShown_0 rfl ?_
  refine px_iload_n dX4_setShown_1 rfl ?_
  refine px_if_eqB 16 dX4_setShown_2 (by decide) (fun c2 => ?_) (fun c2 => ?_)
  · refine px_aload_n dX4_setShown_16 rfl ?_
    refine px_tS 2 dX4_setShown_17 (Or.inl fl_X4_49) (by decide) ?_
    refine px_iconst (v := nI 1) dX4_setShown_20 (by decide) ?_
    refine px_iload_n dX4_setShown_21 rfl ?_
    refine px_ishl1 dX4_setShown_22 (by omega) ?_
    refine px_iconst (v := -1) dX4_setShown_23 (by decide) ?_
    refine px_ixor dX4_setShown_24 ?_
    refine px_iand dX4_setShown_25 (px_topi (nx_dif _ _) ?_)
    refine px_tP 2 dX4_setShown_26 (Or.inl fl_X4_49) (by decide) ?_
    exact px_vret dX4_setShown_29 rfl rfl rfl ⟨rfl, by rw [tshow, c2]; rfl⟩
  · refine px_aload_n dX4_setShown_5 rfl ?_
    refine px_tS 2 dX4_setShown_6 (Or.inl fl_X4_49) (by decide) ?_
    refine px_iconst (v := nI 1) dX4_setShown_9 (by decide) ?_
    refine px_iload_n dX4_setShown_10 rfl ?_
    refine px_ishl1 dX4_setShown_11 (by omega) ?_
    refine px_iorN dX4_setShown_12 ?_
    refine px_goto 26 dX4_setShown_13 (by decide) ?_
    refine px_tP 2 dX4_setShown_26 (Or.inl fl_X4_49) (by decide) ?_
    exact px_vret dX4_setShown_29 rfl rfl rfl ⟨rfl, by rw [tshow, c2]; rfl⟩
set_option maxHeartbeats 4000000 in
set_option maxRecDepth 100000 in
theorem c_X4_growth {E : xE} {h : xHp} {b : Nat} {T : xT} (hOK : tOK T) (a : Nat) (ha : a < 6) : PMI E mX4_growth [.ref b, .int (nI a)] (TH E h b T) (nI (tgrow T a)) (TH E h b T) := by
  refine pm_of [some (.ref b), some (.int (nI a)), none, none] (by decide +kernel) (Nat.le_of_ble_eq_true rfl) rfl ?_
  refine px_iconst (v := nI 4) dX4_growth_0 (by decide) ?_
  refine px_istn_2 dX4_growth_1 (by decide) rfl ?_
  refine px_aload_n dX4_growth_2 rfl ?_
  refine px_tS 4 dX4_growth_3 (Or.inl fl_X4_55) (by decide) ?_
  refine px_iconst (v := nI 2) dX4_growth_6 (by decide) ?_
  refine px_iremN dX4_growth_7 (by first | omega | exact hOK.lt (by decide) | exact hOK.lts (by decide)) (by first | omega | exact hOK.lt (by decide) | exact hOK.lts (by decide)) (by first | omega | exact hOK.lt (by decide) | exact hOK.lts (by decide)) ?_
  refine px_iconst (v := nI 1) dX4_growth_8 (by decide) ?_
  refine px_icmp_neN 16 dX4_growth_9 (by decide) (by first | omega | exact hOK.lt (by decide) | exact hOK.lts (by decide)) (by first | omega | exact hOK.lt (by decide) | exact hOK.lts (by decide)) (fun c9 => ?_) (fun c9 => ?_)
  · refine px_iconst (v := nI 0) dX4_growth_16 (by decide) ?_
    refine px_istn_3 dX4_growth_17 (by decide) rfl ?_
    refine px_aload_n dX4_growth_18 rfl ?_
    refine px_tR 0 dX4_growth_19 (Or.inl fl_X4_9) (by decide) ?_
    refine px_iload_n dX4_growth_22 rfl ?_
    refine px_tL 0 dX4_growth_23 (by decide) (by show _ < 6; omega) ?_
    have hk := hOK.2.1 a
    have hkk : T.1 0 a = 0 ∨ T.1 0 a = 1 ∨ T.1 0 a = 2 ∨ T.1 0 a = 3 ∨ T.1 0 a = 4 := by omega
    rcases hkk with h0 | h0 | h0 | h0 | h0
    · refine px_topi (show nI (T.1 0 a) = nI 0 by rw [h0]) ?_
      refine px_tabOut 97 dX4_growth_24 (by decide) (by decide) ?_
      refine px_iconst (v := nI 2) dX4_growth_97 (by decide) ?_
      exact px_iret dX4_growth_98 rfl rfl rfl ⟨by simp_all [tgrow, tcl], rfl⟩
    · refine px_topi (show nI (T.1 0 a) = nI 1 by rw [h0]) ?_
      refine px_tabIn 56 dX4_growth_24 (by decide) (by decide) rfl (by decide) ?_
      refine px_iload_n dX4_growth_56 rfl ?_
      exact px_iret dX4_growth_57 rfl rfl rfl ⟨by simp_all [tgrow, tcl], rfl⟩
    · refine px_topi (show nI (T.1 0 a) = nI 2 by rw [h0]) ?_
      refine px_tabIn 58 dX4_growth_24 (by decide) (by decide) rfl (by decide) ?_
      refine px_iload_n dX4_growth_58 rfl ?_
      exact px_iret dX4_growth_59 rfl rfl rfl ⟨by simp_all [tgrow, tcl], rfl⟩
    · refine px_topi (show nI (T.1 0 a) = nI 3 by rw [h0]) ?_
      refine px_tabIn 60 dX4_growth_24 (by decide) (by decide) rfl (by decide) ?_
      refine px_aload_n dX4_growth_60 rfl ?_
      refine px_tS 2 dX4_growth_61 (Or.inl fl_X4_49) (by decide) ?_
      refine px_iload_n dX4_growth_64 rfl ?_
      refine px_si (c_X5_has_n (T.2 2) a (by have := hOK.1.2.2.1; omega) (by omega)) mw_X5_has wt_X5_has (Or.inr ⟨_, ml_X4_62⟩) dX4_growth_65 (by decide) rfl rfl (Nat.le_of_ble_eq_true rfl) ⟨rfl, rfl⟩ ?_
      refine px_if_eqB 77 dX4_growth_68 (by decide) (fun c68 => ?_) (fun c68 => ?_)
      · refine px_iload_n dX4_growth_77 rfl ?_
        exact px_iret dX4_growth_78 rfl rfl rfl ⟨by simp_all [tgrow, tcl], rfl⟩
      · refine px_iload_n dX4_growth_71 rfl ?_
        refine px_iconst (v := nI 3) dX4_growth_72 (by decide) ?_
        refine px_iaddN dX4_growth_73 ?_
        refine px_goto 78 dX4_growth_74 (by decide) ?_
        exact px_iret dX4_growth_78 rfl rfl rfl ⟨by simp_all [tgrow, tcl], rfl⟩
    · refine px_topi (show nI (T.1 0 a) = nI 4 by rw [h0]) ?_
      refine px_tabIn 79 dX4_growth_24 (by decide) (by decide) rfl (by decide) ?_
      refine px_iload_n dX4_growth_79 rfl ?_
      refine px_iconst (v := nI 0) dX4_growth_80 (by decide) ?_
      refine px_bipush (v := nI 6) dX4_growth_81 (by decide) ?_
      refine px_aload_n dX4_growth_83 rfl ?_
      refine px_tR 2 dX4_growth_84 (Or.inl fl_X4_18) (by decide) ?_
      refine px_iload_n dX4_growth_87 rfl ?_
      refine px_tL 2 dX4_growth_88 (by decide) (by show _ < 6; omega) ?_
      refine px_isub dX4_growth_89 ?_
      refine px_max dX4_growth_90 ml_X4_89 wt_Math_max wi_java_lang_Math wc_Math_max (by decide) (Nat.le_of_ble_eq_true rfl) ⟨Nat.zero_le _, Nat.zero_le _⟩ ?_
      refine px_topi (nI_max0 (by decide) (by have := hOK.2.2.2.1 a; omega)) ?_
      refine px_min dX4_growth_93 ml_X4_84 wt_Math_min wi_java_lang_Math wc_Math_min (by decide) (Nat.le_of_ble_eq_true rfl) ⟨Nat.zero_le _, Nat.zero_le _⟩ ?_
      refine px_topi (nI_min (by decide) (by omega)) ?_
      exact px_iret dX4_growth_96 rfl rfl rfl ⟨by simp_all [tgrow, tcl], rfl⟩
  · refine px_iconst (v := nI 2) dX4_growth_12 (by decide) ?_
    refine px_goto 17 dX4_growth_13 (by decide) ?_
    refine px_istn_3 dX4_growth_17 (by decide) rfl ?_
    refine px_aload_n dX4_growth_18 rfl ?_
    refine px_tR 0 dX4_growth_19 (Or.inl fl_X4_9) (by decide) ?_
    refine px_iload_n dX4_growth_22 rfl ?_
    refine px_tL 0 dX4_growth_23 (by decide) (by show _ < 6; omega) ?_
    have hk := hOK.2.1 a
    have hkk : T.1 0 a = 0 ∨ T.1 0 a = 1 ∨ T.1 0 a = 2 ∨ T.1 0 a = 3 ∨ T.1 0 a = 4 := by omega
    rcases hkk with h0 | h0 | h0 | h0 | h0
    · refine px_topi (show nI (T.1 0 a) = nI 0 by rw [h0]) ?_
      refine px_tabOut 97 dX4_growth_24 (by decide) (by decide) ?_
      refine px_iconst (v := nI 2) dX4_growth_97 (by decide) ?_
      exact px_iret dX4_growth_98 rfl rfl rfl ⟨by simp_all [tgrow, tcl], rfl⟩
    · refine px_topi (show nI (T.1 0 a) = nI 1 by rw [h0]) ?_
      refine px_tabIn 56 dX4_growth_24 (by decide) (by decide) rfl (by decide) ?_
      refine px_iload_n dX4_growth_56 rfl ?_
      exact px_iret dX4_growth_57 rfl rfl rfl ⟨by simp_all [tgrow, tcl], rfl⟩
    · refine px_topi (show nI (T.1 0 a) = nI 2 by rw [h0]) ?_
      refine px_tabIn 58 dX4_growth_24 (by decide) (by decide) rfl (by decide) ?_
      refine px_iload_n dX4_growth_58 rfl ?_
      exact px_iret dX4_growth_59 rfl rfl rfl ⟨by simp_all [tgrow, tcl], rfl⟩
    · refine px_topi (show nI (T.1 0 a) = nI 3 by rw [h0]) ?_
      refine px_tabIn 60 dX4_growth_24 (by decide) (by decide) rfl (by decide) ?_
      refine px_aload_n dX4_growth_60 rfl ?_
      refine px_tS 2 dX4_growth_61 (Or.inl fl_X4_49) (by decide) ?_
      refine px_iload_n dX4_growth_64 rfl ?_
      refine px_si (c_X5_has_n (T.2 2) a (by have := hOK.1.2.2.1; omega) (by omega)) mw_X5_has wt_X5_has (Or.inr ⟨_, ml_X4_62⟩) dX4_growth_65 (by decide) rfl rfl (Nat.le_of_ble_eq_true rfl) ⟨rfl, rfl⟩ ?_
      refine px_if_eqB 77 dX4_growth_68 (by decide) (fun c68 => ?_) (fun c68 => ?_)
      · refine px_iload_n dX4_growth_77 rfl ?_
        exact px_iret dX4_growth_78 rfl rfl rfl ⟨by simp_all [tgrow, tcl], rfl⟩
      · refine px_iload_n dX4_growth_71 rfl ?_
        refine px_iconst (v := nI 3) dX4_growth_72 (by decide) ?_
        refine px_iaddN dX4_growth_73 ?_
        refine px_goto 78 dX4_growth_74 (by decide) ?_
        exact px_iret dX4_growth_78 rfl rfl rfl ⟨by simp_all [tgrow, tcl], rfl⟩
    · refine px_topi (show nI (T.1 0 a) = nI 4 by rw [h0]) ?_
      refine px_tabIn 79 dX4_growth_24 (by decide) (by decide) rfl (by decide) ?_
      refine px_iload_n dX4_growth_79 rfl ?_
      refine px_iconst (v := nI 0) dX4_growth_80 (by decide) ?_
      refine px_bipush (v := nI 6) dX4_growth_81 (by decide) ?_
      refine px_aload_n dX4_growth_83 rfl ?_
      refine px_tR 2 dX4_growth_84 (Or.inl fl_X4_18) (by decide) ?_
      refine px_iload_n dX4_growth_87 rfl ?_
      refine px_tL 2 dX4_growth_88 (by decide) (by show _ < 6; omega) ?_
      refine px_isub dX4_growth_89 ?_
      refine px_max dX4_growth_90 ml_X4_89 wt_Math_max wi_java_lang_Math wc_Math_max (by decide) (Nat.le_of_ble_eq_true rfl) ⟨Nat.zero_le _, Nat.zero_le _⟩ ?_
      refine px_topi (nI_max0 (by decide) (by have := hOK.2.2.2.1 a; omega)) ?_
      refine px_min dX4_growth_93 ml_X4_84 wt_Math_min wi_java_lang_Math wc_Math_min (by decide) (Nat.le_of_ble_eq_true rfl) ⟨Nat.zero_le _, Nat.zero_le _⟩ ?_
      refine px_topi (nI_min (by decide) (by omega)) ?_
      exact px_iret dX4_growth_96 rfl rfl rfl ⟨by simp_all [tgrow, tcl], rfl⟩
set_option maxHeartbeats 4000000 in
set_option maxRecDepth 100000 in
theorem l_X4_pass {E : xE} {h : xHp} {b : Nat} {T : xT} (hOK : tOK T) (x : Int32) (rob : Nat) (hr : rob < 64) : ∀ (n i : Nat), i ≤ T.2 0 → T.2 0 + 1 ≤ i + n → PW E mX4_pass (fun v h1 => v = none ∧ h1 = TH E h b (tSS (tsteps T rob (T.2 0)) 4 (T.2 4 + 1))) 0 0 8 [some (.ref b), some (.int x), some (.int (nI rob)), some (.int (nI i))] [] (TH E h b (tsteps T rob i)) := by
  have hm6 := hOK.1.1
  intro n
  induction n with
  | zero =>
    intro i h1 h2
    omega
  | succ n ih =>
    intro i h1 h2
    have hs := tsteps_s (T := T) (rob := rob) i
    have hOK1 := tsteps_ok (rob := rob) hOK i (by omega)
    generalize hT1 : tsteps T rob i = T1 at hs hOK1 ⊢
    have hs0 := hs.1
    refine px_iload_n dX4_pass_8 rfl ?_
    refine px_aload_n dX4_pass_9 rfl ?_
    refine px_tS 0 dX4_pass_10 (Or.inl fl_X4_43) (by decide) ?_
    refine px_icmp_geN 72 dX4_pass_13 (by decide) (by first | omega | exact hOK1.lt (by decide) | exact hOK1.lts (by decide)) (by first | omega | exact hOK1.lt (by decide) | exact hOK1.lts (by decide)) (fun c13 => ?_) (fun c13 => ?_)
    · refine px_aload_n dX4_pass_72 rfl ?_
      refine px_dup dX4_pass_73 rfl ?_
      refine px_tS 4 dX4_pass_74 (Or.inl fl_X4_55) (by decide) ?_
      refine px_iconst (v := nI 1) dX4_pass_77 (by decide) ?_
      refine px_iaddN dX4_pass_78 ?_
      refine px_tP 4 dX4_pass_79 (Or.inl fl_X4_55) (by decide) ?_
      have hi : i = T.2 0 := by omega
      subst hi
      exact px_vret dX4_pass_82 rfl rfl rfl ⟨rfl, by rw [hT1, hs.2.2.2.1]⟩
    · refine px_iload_n dX4_pass_16 rfl ?_
      refine px_iload_n dX4_pass_17 rfl ?_
      refine px_si (c_X5_has_n rob i (by omega) (by omega)) mw_X5_has wt_X5_has (Or.inr ⟨_, ml_X4_62⟩) dX4_pass_18 (by decide) rfl rfl (Nat.le_of_ble_eq_true rfl) ⟨rfl, rfl⟩ ?_
      refine px_if_eqB 32 dX4_pass_21 (by decide) (fun c21 => ?_) (fun c21 => ?_)
      · refine px_aload_n dX4_pass_32 rfl ?_
        refine px_tS 3 dX4_pass_33 (Or.inl fl_X4_52) (by decide) ?_
        refine px_iload_n dX4_pass_36 rfl ?_
        refine px_si (c_X5_has_n (T1.2 3) i (by have := hOK1.1.2.2.2.1; omega) (by omega)) mw_X5_has wt_X5_has (Or.inr ⟨_, ml_X4_62⟩) dX4_pass_37 (by decide) rfl rfl (Nat.le_of_ble_eq_true rfl) ⟨rfl, rfl⟩ ?_
        refine px_if_neB 66 dX4_pass_40 (by decide) (fun c40 => ?_) (fun c40 => ?_)
        · refine px_inc_3 dX4_pass_66 rfl (nI_1 _) (by decide) rfl ?_
          refine px_goto 8 dX4_pass_69 (by decide) ?_
          refine px_heap ?_ (ih (i + 1) (by omega) (by omega))
          rw [tsteps, hT1, tstep]
          first | (rw [if_pos c21]; done) | (rw [if_neg (by simp [c21]), if_pos c40]; done) | (rw [if_neg (by simp [c21]), if_neg (by simp [c40])]; done)
        · refine px_aload_n dX4_pass_43 rfl ?_
          refine px_tR 2 dX4_pass_44 (Or.inl fl_X4_18) (by decide) ?_
          refine px_iload_n dX4_pass_47 rfl ?_
          refine px_bipush (v := nI 99) dX4_pass_48 (by decide) ?_
          refine px_aload_n dX4_pass_50 rfl ?_
          refine px_tR 2 dX4_pass_51 (Or.inl fl_X4_18) (by decide) ?_
          refine px_iload_n dX4_pass_54 rfl ?_
          refine px_tL 2 dX4_pass_55 (by decide) (by show _ < 6; omega) ?_
          refine px_aload_n dX4_pass_56 rfl ?_
          refine px_iload_n dX4_pass_57 rfl ?_
          refine px_vi (M2 := mX4_growth) (c_X4_growth hOK1 i (by omega)) mw_X4_growth wm_X4_growth we_X4_growth (Or.inl ml_X4_81) dX4_pass_58 (TH_obj) rfl (by decide) rfl rfl (Nat.le_of_ble_eq_true rfl) ⟨rfl, rfl⟩ ?_
          refine px_iaddN dX4_pass_61 ?_
          refine px_min dX4_pass_62 ml_X4_84 wt_Math_min wi_java_lang_Math wc_Math_min (by decide) (Nat.le_of_ble_eq_true rfl) ⟨Nat.zero_le _, Nat.zero_le _⟩ ?_
          refine px_topi (nI_min (by decide) (by have q1 := hOK1.2.2.2.1 i; have q2 := tgrow_le T1 i; omega)) ?_
          refine px_tW 2 dX4_pass_65 (by decide) (by show _ < 6; omega) ?_
          refine px_inc_3 dX4_pass_66 rfl (nI_1 _) (by decide) rfl ?_
          refine px_goto 8 dX4_pass_69 (by decide) ?_
          refine px_heap ?_ (ih (i + 1) (by omega) (by omega))
          rw [tsteps, hT1, tstep]
          first | (rw [if_pos c21]; done) | (rw [if_neg (by simp [c21]), if_pos c40]; done) | (rw [if_neg (by simp [c21]), if_neg (by simp [c40])]; done)
      · refine px_aload_n dX4_pass_24 rfl ?_
        refine px_iload_n dX4_pass_25 rfl ?_
        refine px_vv (M2 := mX4_lose) (c_X4_lose hOK1 i (by omega)) mw_X4_lose wm_X4_lose we_X4_lose (Or.inl ml_X4_77) dX4_pass_26 (TH_obj) rfl (by decide) rfl rfl (Nat.le_of_ble_eq_true rfl) ⟨rfl, rfl⟩ ?_
        refine px_goto 66 dX4_pass_29 (by decide) ?_
        refine px_inc_3 dX4_pass_66 rfl (nI_1 _) (by decide) rfl ?_
        refine px_goto 8 dX4_pass_69 (by decide) ?_
        refine px_heap ?_ (ih (i + 1) (by omega) (by omega))
        rw [tsteps, hT1, tstep]
        first | (rw [if_pos c21]; done) | (rw [if_neg (by simp [c21]), if_pos c40]; done) | (rw [if_neg (by simp [c21]), if_neg (by simp [c40])]; done)
set_option maxHeartbeats 4000000 in
set_option maxRecDepth 100000 in
theorem c_X4_pass {E : xE} {h : xHp} {b : Nat} {T : xT} (hOK : tOK T) (x : Int32) (hm : Nat → Bool) (hx : ∀ i, i < 4 → hbit x i = hm i) : PMV E mX4_pass [.ref b, .int x] (TH E h b T) (TH E h b (tpass T hm)) := by
  refine pm_of [some (.ref b), some (.int x), none, none] (by decide +kernel) (Nat.le_of_ble_eq_true rfl) rfl ?_
  refine px_aload_n dX4_pass_0 rfl ?_
  refine px_iload_n dX4_pass_1 rfl ?_
  refine px_vi (M2 := mX4_robbedTonight) (c_X4_robbed hOK x hm hx) mw_X4_robbedTonight wm_X4_robbedTonight we_X4_robbedTonight (Or.inl ml_X4_73) dX4_pass_2 (TH_obj) rfl (by decide) rfl rfl (Nat.le_of_ble_eq_true rfl) ⟨rfl, rfl⟩ ?_
  refine px_istn_2 dX4_pass_5 (by decide) rfl ?_
  refine px_iconst (v := nI 0) dX4_pass_6 (by decide) ?_
  refine px_istn_3 dX4_pass_7 (by decide) rfl ?_
  exact l_X4_pass hOK x (trob T hm (T.2 1)) (trob_lt hOK.1.1 _) (T.2 0 + 1) 0 (Nat.zero_le _) (by omega)
