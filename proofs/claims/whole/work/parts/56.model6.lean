/-! ===== the reference's changes ===== -/
theorem tst_pass {T : xT} {hm : Nat → Bool} : tst T (tpass T hm) := by
  have p2 := (tsteps_p (T := T) (R := trob T hm (T.2 1)) (T.2 0)).2
  have q : ∀ j b, j ≠ 1 → j ≠ 2 → (tpass T hm).1 j b = T.1 j b := by
    intro j b h1 h2
    show (tsteps T (trob T hm (T.2 1)) (T.2 0)).1 j b = T.1 j b
    rw [p2 j b]
    split
    · unfold tst1
      split
      · rw [if_neg (by omega)]
      · split
        · rfl
        · first | rfl | rw [if_neg h2]
    · rfl
  exact ⟨⟨tpass_s.1, tpass_s.2.1⟩, fun a _ => q 0 a (by decide) (by decide), fun t _ => ⟨q 4 t (by decide) (by decide), q 5 t (by decide) (by decide)⟩⟩
theorem tst_show {T : xT} {a : Nat} {v : Bool} : tst T (tshow T a v) := ⟨⟨rfl, rfl⟩, fun _ _ => rfl, fun _ _ => ⟨rfl, rfl⟩⟩
theorem tst_draw {T : xT} : tst T (tdraw T) := by
  unfold tdraw tdr2
  split
  · exact ⟨⟨rfl, rfl⟩, fun _ _ => rfl, fun _ _ => ⟨rfl, rfl⟩⟩
  · exact ⟨⟨rfl, rfl⟩, fun _ _ => rfl, fun _ _ => ⟨rfl, rfl⟩⟩
theorem brc_ss {D : xMd} {g : Nat → Nat} {i j q : Nat} : brc (sB D 0 g) 0 i 0 j q = sB D 0 (va_cpy g g i j q) := by
  unfold brc
  rw [sB_twice]
  rfl
theorem cpy_out {f g : Nat → Nat} {i j q x : Nat} (h : x < j ∨ j + q ≤ x) : va_cpy f g i j q x = g x := by
  unfold va_cpy
  rw [if_neg (by omega)]
theorem tSS_at (T : xT) (j v : Nat) : (tSS T j v).2 j = v := if_pos rfl
theorem tSS_ne (T : xT) {i j v : Nat} (h : i ≠ j) : (tSS T j v).2 i = T.2 i := if_neg h
def lcgN (d : Nat) : Nat := (d * 1103515245 + 12345) % 2147483648
theorem lcgN_i {d : Nat} (hd : d < 2 ^ 31) : ((nI d).toInt64 * 1103515245 + 12345 - ((nI d).toInt64 * 1103515245 + 12345) / 2147483648 * 2147483648).toInt32 = nI (lcgN d) := lcg hd
theorem lcgN_lt (d : Nat) : lcgN d < 2 ^ 31 := Nat.mod_lt _ (by decide)
theorem tdr1_eq (T : xT) : tdr1 T = tSS T 6 (lcgN (T.2 6)) := rfl
theorem drw0 {T : xT} (h : T.2 0 = 0) : tdraw T = tSS T 6 (lcgN (T.2 6)) := by
  unfold tdraw tdr2
  rw [tdr1_eq, tSS_ne _ (by decide), if_pos h]
theorem drw1 {T : xT} (h : T.2 0 ≠ 0) : tdraw T = tshow (tSS T 6 (lcgN (T.2 6))) (lcgN (T.2 6) / 65536 % T.2 0) (decide (lcgN (T.2 6) / 128 % 2 = 0)) := by
  unfold tdraw tdr2
  rw [tdr1_eq, tSS_ne _ (by decide), if_neg h, tSS_at]
set_option maxHeartbeats 4000000 in
set_option maxRecDepth 100000 in
theorem l_X6_note {E : xE} {h : xHp} {w : Nat} {D : xMd} {T : xT} {P : xP} {g : Nat → Nat} (hN : RN g T P) (hb : P.2.2 < 8) : PW E mX6_note (fun v h1 => v = none ∧ ∃ g', RN g' T (va_up P.1 P.2.1 T, (P.2.1 + 1) % 8, P.2.2 + 1) ∧ h1 = MH E h w (sB D 0 g')) 0 0 41 [some (.ref w)] [] (MH E h w (sB D 0 g)) := by
  refine px_aload_n dX6_note_41 rfl ?_
  refine px_get xk_X6 7 dX6_note_42 (Or.inl fl_X6_23) MH_obj (by decide) rfl ?_
  refine px_iconst (v := nI 0) dX6_note_45 (by decide) ?_
  refine px_aload_n dX6_note_46 rfl ?_
  refine px_get xk_X6 7 dX6_note_47 (Or.inl fl_X6_23) MH_obj (by decide) rfl ?_
  refine px_bipush (v := nI 40) dX6_note_50 (by decide) ?_
  refine px_bipush (v := nI 22) dX6_note_52 (by decide) ?_
  refine px_aload_n dX6_note_54 rfl ?_
  refine px_get xk_X6 7 dX6_note_55 (Or.inl fl_X6_23) MH_obj (by decide) rfl ?_
  refine px_bipush (v := nI 39) dX6_note_58 (by decide) ?_
  refine px_bL (b := 0) rfl dX6_note_60 (by decide) (by omega) (hN.2.2.1) ?_
  refine px_imulN dX6_note_61 ?_
  refine px_iaddN dX6_note_62 ?_
  refine px_bipush (v := nI 22) dX6_note_63 (by decide) ?_
  refine px_sv (c_X6_bring 0 0 0 (40 + 22 * P.2.2) 22 (by decide) (by decide) (by omega) (by omega) (Or.inr (Or.inr (by omega)))) mw_X6_bring wt_X6_bring (Or.inl ml_X6_108) dX6_note_65 (by decide) rfl rfl (Nat.le_of_ble_eq_true rfl) ⟨rfl, rfl⟩ ?_
  refine px_heap (h2 := MH E h w (sB D 0 (va_cpy g g 0 (40 + 22 * P.2.2) 22))) (by rw [brc_ss]) ?_
  refine px_aload_n dX6_note_68 rfl ?_
  refine px_get xk_X6 7 dX6_note_69 (Or.inl fl_X6_23) MH_obj (by decide) rfl ?_
  refine px_bipush (v := nI 39) dX6_note_72 (by decide) ?_
  refine px_dup2 dX6_note_74 rfl rfl ?_
  refine px_bL (b := 0) rfl dX6_note_75 (by decide) (by omega) ((cpy_out (by omega)).trans hN.2.2.1) ?_
  refine px_iconst (v := nI 1) dX6_note_76 (by decide) ?_
  refine px_iaddN dX6_note_77 ?_
  refine px_bWs (b := 0) dX6_note_78 (by decide) (by decide) ?_
  exact px_vret dX6_note_79 rfl rfl rfl ⟨rfl, _, hN.push hb, rfl⟩
set_option maxHeartbeats 4000000 in
set_option maxRecDepth 100000 in
theorem c_X6_note {E : xE} {h : xHp} {w : Nat} {D : xMd} {T : xT} {P : xP} (hN : RN (D.1 0) T P) : PMet E mX6_note [.ref w] (MH E h w D) (fun v h1 => v = none ∧ ∃ g', RN g' T (pkeep P T) ∧ h1 = MH E h w (sB D 0 g')) := by
  refine pm_of [some (.ref w)] (by decide +kernel) (Nat.le_of_ble_eq_true rfl) rfl ?_
  refine px_aload_n dX6_note_0 rfl ?_
  refine px_get xk_X6 7 dX6_note_1 (Or.inl fl_X6_23) MH_obj (by decide) rfl ?_
  refine px_bipush (v := nI 39) dX6_note_4 (by decide) ?_
  refine px_bL (b := 0) rfl dX6_note_6 (by decide) (by omega) (hN.2.2.1) ?_
  refine px_bipush (v := nI 8) dX6_note_7 (by decide) ?_
  refine px_icmp_neN 41 dX6_note_9 (by decide) (by have := hN.2.2.2.1; omega) (by have := hN.2.2.2.1; omega) (fun c9 => ?_) (fun c9 => ?_)
  · have h8 := hN.2.2.2.1
    rw [pkeep_lt (T := T) (by omega : P.2.2 < 8)]
    refine px_heap (h2 := MH E h w (sB D 0 (D.1 0))) (by rw [sB_self]) ?_
    exact l_X6_note hN (by omega)
  · refine px_aload_n dX6_note_12 rfl ?_
    refine px_get xk_X6 7 dX6_note_13 (Or.inl fl_X6_23) MH_obj (by decide) rfl ?_
    refine px_bipush (v := nI 62) dX6_note_16 (by decide) ?_
    refine px_aload_n dX6_note_18 rfl ?_
    refine px_get xk_X6 7 dX6_note_19 (Or.inl fl_X6_23) MH_obj (by decide) rfl ?_
    refine px_bipush (v := nI 40) dX6_note_22 (by decide) ?_
    refine px_sipush (v := nI 154) dX6_note_24 (by decide) ?_
    refine px_sv (c_X6_bring 0 62 0 40 154 (by decide) (by decide) (by omega) (by omega) (Or.inr (Or.inl (by omega)))) mw_X6_bring wt_X6_bring (Or.inl ml_X6_108) dX6_note_27 (by decide) rfl rfl (Nat.le_of_ble_eq_true rfl) ⟨rfl, rfl⟩ ?_
    refine px_heap (h2 := MH E h w (sB D 0 (va_cpy (D.1 0) (D.1 0) 62 40 154))) rfl ?_
    refine px_aload_n dX6_note_30 rfl ?_
    refine px_get xk_X6 7 dX6_note_31 (Or.inl fl_X6_23) MH_obj (by decide) rfl ?_
    refine px_bipush (v := nI 39) dX6_note_34 (by decide) ?_
    refine px_dup2 dX6_note_36 rfl rfl ?_
    refine px_bL (b := 0) (g := va_cpy (D.1 0) (D.1 0) 62 40 154) rfl dX6_note_37 (by decide) (by omega) ((cpy_out (by omega)).trans (hN.2.2.1.trans c9)) ?_
    refine px_iconst (v := nI 1) dX6_note_38 (by decide) ?_
    refine px_isubN dX6_note_39 (by omega) ?_
    refine px_bWs (b := 0) dX6_note_40 (by decide) (by decide) ?_
    rw [pkeep_8 (T := T) c9]
    exact l_X6_note (P := (P.1, P.2.1, 7)) (hN.shift c9) (by show 7 < 8; decide)
set_option maxHeartbeats 4000000 in
set_option maxRecDepth 100000 in
theorem l_X6_nights {E : xE} {h : xHp} {w : Nat} {O0 : xO} {k : Nat} (hk : k ≤ 40) : ∀ (n : Nat) (O : xO) (D : xMd) (i : Nat), i + n = k → Rel O D → (O.1.1 0).2 4 + n ≤ 9999 → ospend O0 false k = ospend O false n → PW E mX6_nights (fun v h' => v = some (.int (nI (((ospend O0 false k).1.1 0).2 3))) ∧ ∃ D', Rel (ospend O0 false k) D' ∧ h' = MH E h w D') 0 0 31 [some (.ref w), some (.int (nI k)), some (.int (nI i))] [] (MH E h w D) := by
  intro n
  induction n with
  | zero =>
    intro O D i h1 hR hn hgo
    have R := hR.1.1
    have hOK := hR.1.2.1.1
    have hm6 := hOK.1.1
    have hm4 := hOK.1.2.1
    have hN9 := hR.1.2.1.2
    refine px_iload_n dX6_nights_31 rfl ?_
    refine px_iload_n dX6_nights_32 rfl ?_
    refine px_icmp_geN 55 dX6_nights_33 (by decide) (by omega) (by omega) (fun c33 => ?_) (fun c33 => ?_)
    · refine px_aload_n dX6_nights_55 rfl ?_
      refine px_get xk_X6 7 dX6_nights_56 (Or.inl fl_X6_23) MH_obj (by decide) rfl ?_
      refine px_bipush (v := nI 21) dX6_nights_59 (by decide) ?_
      refine px_bL (b := 0) rfl dX6_nights_61 (by decide) (by omega) (R.sw) ?_
      exact px_iret dX6_nights_62 rfl rfl rfl ⟨by rw [hgo]; rfl, D, by rw [hgo]; exact hR, rfl⟩
    · omega
  | succ n ih =>
    intro O D i h1 hR hn hgo
    have R := hR.1.1
    have hOK := hR.1.2.1.1
    have hm6 := hOK.1.1
    have hm4 := hOK.1.2.1
    have hN9 := hR.1.2.1.2
    refine px_iload_n dX6_nights_31 rfl ?_
    refine px_iload_n dX6_nights_32 rfl ?_
    refine px_icmp_geN 55 dX6_nights_33 (by decide) (by first | omega | exact hOK.lts (by decide)) (by first | omega | exact hOK.lts (by decide)) (fun c33 => ?_) (fun c33 => ?_)
    · omega
    · refine px_aload_n dX6_nights_36 rfl ?_
      refine px_callV (M2 := mX6_note) (c_X6_note hR.1) mw_X6_note wm_X6_note we_X6_note (Or.inl ml_X6_123) dX6_nights_37 MH_obj rfl (by decide) rfl rfl (Nat.le_of_ble_eq_true rfl) ⟨Nat.zero_le _, Nat.zero_le _⟩ (fun v h2 hq => ?_)
      obtain ⟨rfl, g1, hN1, rfl⟩ := hq
      refine px_aload_n dX6_nights_40 rfl ?_
      refine px_aload_n dX6_nights_41 rfl ?_
      refine px_get xk_X6 7 dX6_nights_42 (Or.inl fl_X6_23) MH_obj (by decide) rfl ?_
      refine px_iconst (v := nI 0) dX6_nights_45 (by decide) ?_
      refine px_callV (M2 := mX6_nightIn) (c_X6_nightIn (k := 0) (by decide) hOK (nI 0) hm0 hb0 hN1.1) mw_X6_nightIn wm_X6_nightIn we_X6_nightIn (Or.inl ml_X6_126) dX6_nights_46 MH_obj rfl (by decide) rfl rfl (Nat.le_of_ble_eq_true rfl) ⟨Nat.zero_le _, Nat.zero_le _⟩ (fun v h2 hq => ?_)
      obtain ⟨rfl, g2, pr, R2, hg2, rfl⟩ := hq
      refine px_inc_2 dX6_nights_49 rfl (nI_1 _) (by decide) rfl ?_
      refine px_goto 31 dX6_nights_52 (by decide) ?_
      have hN2 := hN1.town R2 (tpass_ok hOK (by omega)) (by rw [tpass_s.2.2.2.1]; omega) tst_pass hg2
      exact ih (onight O false) _ (i + 1) (by omega) (hR.setN hN2) (by rw [onight_4]; omega) (by rw [hgo]; rfl)
set_option maxHeartbeats 4000000 in
set_option maxRecDepth 100000 in
theorem c_X6_nights_n {E : xE} {h : xHp} {w : Nat} {D : xMd} {O : xO} (hR : Rel O D) (x : Int32) (hx : ¬ ((nI 1 ≤ x ∧ x ≤ nI 40))) : PMX E mX6_nights [.ref w, .int x] h w D (-1) O := by
  have R := hR.1.1
  have hOK := hR.1.2.1.1
  have hm6 := hOK.1.1
  have hm4 := hOK.1.2.1
  have hN9 := hR.1.2.1.2
  refine pm_of [some (.ref w), some (.int x), none] (by decide +kernel) (Nat.le_of_ble_eq_true rfl) rfl ?_
  refine px_iload_n dX6_nights_0 rfl ?_
  refine px_iconst (v := nI 1) dX6_nights_1 (by decide) ?_
  refine px_bipush (v := nI 40) dX6_nights_2 (by decide) ?_
  refine px_si (c_X6_in (x) (nI 1) (nI 40)) mw_X6_in wt_X6_in (Or.inl ml_X6_38) dX6_nights_4 (by decide) rfl rfl (Nat.le_of_ble_eq_true rfl) ⟨rfl, rfl⟩ ?_
  refine px_if_neB 12 dX6_nights_7 (by decide) (fun c7 => ?_) (fun c7 => ?_)
  · exact absurd (of_decide_eq_true c7) hx
  · refine px_iconst (v := -1) dX6_nights_10 (by decide) ?_
    exact px_iret dX6_nights_11 rfl rfl rfl ⟨rfl, D, hR, rfl⟩
set_option maxHeartbeats 4000000 in
set_option maxRecDepth 100000 in
theorem c_X6_nights_f {E : xE} {h : xHp} {w : Nat} {D : xMd} {O : xO} (hR : Rel O D) (k : Nat) (h1 : 1 ≤ k) (hk : k ≤ 40) (hn : 9999 - k < (O.1.1 0).2 4) : PMX E mX6_nights [.ref w, .int (nI k)] h w D (-3) O := by
  have R := hR.1.1
  have hOK := hR.1.2.1.1
  have hm6 := hOK.1.1
  have hm4 := hOK.1.2.1
  have hN9 := hR.1.2.1.2
  refine pm_of [some (.ref w), some (.int (nI k)), none] (by decide +kernel) (Nat.le_of_ble_eq_true rfl) rfl ?_
  refine px_iload_n dX6_nights_0 rfl ?_
  refine px_iconst (v := nI 1) dX6_nights_1 (by decide) ?_
  refine px_bipush (v := nI 40) dX6_nights_2 (by decide) ?_
  refine px_si (c_X6_in (nI k) (nI 1) (nI 40)) mw_X6_in wt_X6_in (Or.inl ml_X6_38) dX6_nights_4 (by decide) rfl rfl (Nat.le_of_ble_eq_true rfl) ⟨rfl, rfl⟩ ?_
  refine px_if_neB 12 dX6_nights_7 (by decide) (fun c7 => ?_) (fun c7 => ?_)
  · refine px_aload_n dX6_nights_12 rfl ?_
    refine px_get xk_X6 7 dX6_nights_13 (Or.inl fl_X6_23) MH_obj (by decide) rfl ?_
    refine px_iconst (v := nI 0) dX6_nights_16 (by decide) ?_
    refine px_bL (b := 0) rfl dX6_nights_17 (by decide) (by omega) (R.nt) ?_
    refine px_iload_n dX6_nights_18 rfl ?_
    refine px_iaddN dX6_nights_19 ?_
    refine px_sipush (v := nI 9999) dX6_nights_20 (by decide) ?_
    refine px_icmp_leN 29 dX6_nights_23 (by decide) (by first | omega | exact hOK.lt (by decide) | exact hOK.lts (by decide)) (by first | omega | exact hOK.lt (by decide) | exact hOK.lts (by decide)) (fun c23 => ?_) (fun c23 => ?_)
    · omega
    · refine px_bipush (v := -3) dX6_nights_26 (by decide) ?_
      exact px_iret dX6_nights_28 rfl rfl rfl ⟨rfl, D, hR, rfl⟩
  · rw [in_t (by omega) (by omega) (by decide)] at c7
    cases c7
set_option maxHeartbeats 4000000 in
set_option maxRecDepth 100000 in
theorem c_X6_nights {E : xE} {h : xHp} {w : Nat} {D : xMd} {O : xO} (hR : Rel O D) (k : Nat) (h1 : 1 ≤ k) (hk : k ≤ 40) (hn : (O.1.1 0).2 4 ≤ 9999 - k) : PMX E mX6_nights [.ref w, .int (nI k)] h w D (nI (((ospend O false k).1.1 0).2 3)) (ospend O false k) := by
  have R := hR.1.1
  have hOK := hR.1.2.1.1
  have hm6 := hOK.1.1
  have hm4 := hOK.1.2.1
  have hN9 := hR.1.2.1.2
  refine pm_of [some (.ref w), some (.int (nI k)), none] (by decide +kernel) (Nat.le_of_ble_eq_true rfl) rfl ?_
  refine px_iload_n dX6_nights_0 rfl ?_
  refine px_iconst (v := nI 1) dX6_nights_1 (by decide) ?_
  refine px_bipush (v := nI 40) dX6_nights_2 (by decide) ?_
  refine px_si (c_X6_in (nI k) (nI 1) (nI 40)) mw_X6_in wt_X6_in (Or.inl ml_X6_38) dX6_nights_4 (by decide) rfl rfl (Nat.le_of_ble_eq_true rfl) ⟨rfl, rfl⟩ ?_
  refine px_if_neB 12 dX6_nights_7 (by decide) (fun c7 => ?_) (fun c7 => ?_)
  · refine px_aload_n dX6_nights_12 rfl ?_
    refine px_get xk_X6 7 dX6_nights_13 (Or.inl fl_X6_23) MH_obj (by decide) rfl ?_
    refine px_iconst (v := nI 0) dX6_nights_16 (by decide) ?_
    refine px_bL (b := 0) rfl dX6_nights_17 (by decide) (by omega) (R.nt) ?_
    refine px_iload_n dX6_nights_18 rfl ?_
    refine px_iaddN dX6_nights_19 ?_
    refine px_sipush (v := nI 9999) dX6_nights_20 (by decide) ?_
    refine px_icmp_leN 29 dX6_nights_23 (by decide) (by first | omega | exact hOK.lt (by decide) | exact hOK.lts (by decide)) (by first | omega | exact hOK.lt (by decide) | exact hOK.lts (by decide)) (fun c23 => ?_) (fun c23 => ?_)
    · refine px_iconst (v := nI 0) dX6_nights_29 (by decide) ?_
      refine px_istn_2 dX6_nights_30 (by decide) rfl ?_
      exact l_X6_nights hk k O D 0 (by omega) hR (by omega) rfl
    · omega
  · rw [in_t (by omega) (by omega) (by decide)] at c7
    cases c7
set_option maxHeartbeats 4000000 in
set_option maxRecDepth 100000 in
theorem l_X6_drift {E : xE} {h : xHp} {w : Nat} {O0 : xO} {k : Nat} (hk : k ≤ 40) : ∀ (n : Nat) (O : xO) (D : xMd) (i : Nat), i + n = k → Rel O D → (O.1.1 0).2 4 + n ≤ 9999 → ospend O0 true k = ospend O true n → PW E mX6_drift (fun v h' => v = some (.int (nI (((ospend O0 true k).1.1 0).2 3))) ∧ ∃ D', Rel (ospend O0 true k) D' ∧ h' = MH E h w D') 0 0 31 [some (.ref w), some (.int (nI k)), some (.int (nI i))] [] (MH E h w D) := by
  intro n
  induction n with
  | zero =>
    intro O D i h1 hR hn hgo
    have R := hR.1.1
    have hOK := hR.1.2.1.1
    have hm6 := hOK.1.1
    have hm4 := hOK.1.2.1
    have hN9 := hR.1.2.1.2
    refine px_iload_n dX6_drift_31 rfl ?_
    refine px_iload_n dX6_drift_32 rfl ?_
    refine px_icmp_geN 135 dX6_drift_33 (by decide) (by omega) (by omega) (fun c33 => ?_) (fun c33 => ?_)
    · refine px_aload_n dX6_drift_135 rfl ?_
      refine px_get xk_X6 7 dX6_drift_136 (Or.inl fl_X6_23) MH_obj (by decide) rfl ?_
      refine px_bipush (v := nI 21) dX6_drift_139 (by decide) ?_
      refine px_bL (b := 0) rfl dX6_drift_141 (by decide) (by omega) (R.sw) ?_
      exact px_iret dX6_drift_142 rfl rfl rfl ⟨by rw [hgo]; rfl, D, by rw [hgo]; exact hR, rfl⟩
    · omega
  | succ n ih =>
    intro O D i h1 hR hn hgo
    have R := hR.1.1
    have hOK := hR.1.2.1.1
    have hm6 := hOK.1.1
    have hm4 := hOK.1.2.1
    have hN9 := hR.1.2.1.2
    refine px_iload_n dX6_drift_31 rfl ?_
    refine px_iload_n dX6_drift_32 rfl ?_
    refine px_icmp_geN 135 dX6_drift_33 (by decide) (by first | omega | exact hOK.lts (by decide)) (by first | omega | exact hOK.lts (by decide)) (fun c33 => ?_) (fun c33 => ?_)
    · omega
    · refine px_aload_n dX6_drift_36 rfl ?_
      refine px_callV (M2 := mX6_note) (c_X6_note hR.1) mw_X6_note wm_X6_note we_X6_note (Or.inl ml_X6_123) dX6_drift_37 MH_obj rfl (by decide) rfl rfl (Nat.le_of_ble_eq_true rfl) ⟨Nat.zero_le _, Nat.zero_le _⟩ (fun v h2 hq => ?_)
      obtain ⟨rfl, g1, hN1, rfl⟩ := hq
      refine px_aload_n dX6_drift_40 rfl ?_
      refine px_get xk_X6 7 dX6_drift_41 (Or.inl fl_X6_23) MH_obj (by decide) rfl ?_
      refine px_iconst (v := nI 1) dX6_drift_44 (by decide) ?_
      refine px_aload_n dX6_drift_45 rfl ?_
      refine px_get xk_X6 7 dX6_drift_46 (Or.inl fl_X6_23) MH_obj (by decide) rfl ?_
      refine px_iconst (v := nI 1) dX6_drift_49 (by decide) ?_
      refine px_bL (b := 0) rfl dX6_drift_50 (by decide) (by omega) hN1.1.dr ?_
      refine px_i2l dX6_drift_51 ?_
      refine px_ldc2 dX6_drift_52 kc_X6_134 ?_
      refine px_lmul dX6_drift_55 ?_
      refine px_ldc2 dX6_drift_56 kc_X6_136 ?_
      refine px_ladd dX6_drift_59 ?_
      refine px_ldc2 dX6_drift_60 kc_X6_138 ?_
      refine px_lrem dX6_drift_63 (by decide) ?_
      refine px_l2i dX6_drift_64 ?_
      refine px_topi (lcgN_i (hOK.lts (by decide))) ?_
      have hLt := lcgN_lt ((O.1.1 0).2 6)
      have hd0 := fun hz => drw0 (T := O.1.1 0) hz
      have hd1 := fun hz => drw1 (T := O.1.1 0) hz
      generalize lcgN ((O.1.1 0).2 6) = L at hLt hd0 hd1 ⊢
      refine px_bWs (b := 0) dX6_drift_65 (by decide) (by decide) ?_
      have R2 : Rep (va_up g1 1 L) (tSS (O.1.1 0) 6 L) := hN1.1.ups6 hm6 hm4
      refine px_aload_n dX6_drift_66 rfl ?_
      refine px_get xk_X6 7 dX6_drift_67 (Or.inl fl_X6_23) MH_obj (by decide) rfl ?_
      refine px_bipush (v := nI 23) dX6_drift_70 (by decide) ?_
      refine px_bL (b := 0) (sB_at _ _ _) dX6_drift_72 (by decide) (by omega) (show _ = (O.1.1 0).2 0 from R2.mn) ?_
      refine px_if_leN (a := (O.1.1 0).2 0) 120 dX6_drift_73 (by decide) (by omega) (fun c73 => ?_) (fun c73 => ?_)
      · have hR3 : Rep (va_up g1 1 L) (tdraw (O.1.1 0)) := by rw [hd0 c73]; exact R2
        have hN3 := hN1.town hR3 (tdraw_ok hOK) (by rw [tdraw_4]; omega) tst_draw (fun q hq => by rw [va_up_ne _ _ (by omega)])
        refine px_aload_n dX6_drift_120 rfl ?_
        refine px_aload_n dX6_drift_121 rfl ?_
        refine px_get xk_X6 7 dX6_drift_122 (Or.inl fl_X6_23) MH_obj (by decide) rfl ?_
        refine px_iconst (v := nI 0) dX6_drift_125 (by decide) ?_
        refine px_callV (M2 := mX6_nightIn) (c_X6_nightIn (k := 0) (by decide) (tdraw_ok hOK) (nI 0) hm0 hb0 hR3) mw_X6_nightIn wm_X6_nightIn we_X6_nightIn (Or.inl ml_X6_126) dX6_drift_126 MH_obj rfl (by decide) rfl rfl (Nat.le_of_ble_eq_true rfl) ⟨Nat.zero_le _, Nat.zero_le _⟩ (fun v h2 hq => ?_)
        obtain ⟨rfl, g4, pr, R4, hg4, rfl⟩ := hq
        refine px_inc_2 dX6_drift_129 rfl (nI_1 _) (by decide) rfl ?_
        refine px_goto 31 dX6_drift_132 (by decide) ?_
        have hN5 := hN3.town R4 (tpass_ok (tdraw_ok hOK) (by rw [tdraw_4]; omega)) (by rw [tpass_s.2.2.2.1, tdraw_4]; omega) tst_pass hg4
        exact ih (onight O true) _ (i + 1) (by omega) (hR.setN hN5) (by rw [onight_4]; omega) (by rw [hgo]; rfl)
      · refine px_aload_n dX6_drift_76 rfl ?_
        refine px_get xk_X6 7 dX6_drift_77 (Or.inl fl_X6_23) MH_obj (by decide) rfl ?_
        refine px_aload_n dX6_drift_80 rfl ?_
        refine px_get xk_X6 7 dX6_drift_81 (Or.inl fl_X6_23) MH_obj (by decide) rfl ?_
        refine px_iconst (v := nI 1) dX6_drift_84 (by decide) ?_
        refine px_bL (b := 0) (sB_at _ _ _) dX6_drift_85 (by decide) (by omega) (va_up_self _ _ _) ?_
        refine px_ldc dX6_drift_86 kc_X6_140 ?_
        refine px_topi (nI_lit 65536) ?_
        refine px_idivN dX6_drift_88 (by first | omega | exact hOK.lts (by decide)) (by first | omega | exact hOK.lts (by decide)) (by first | omega | exact hOK.lts (by decide)) ?_
        refine px_aload_n dX6_drift_89 rfl ?_
        refine px_get xk_X6 7 dX6_drift_90 (Or.inl fl_X6_23) MH_obj (by decide) rfl ?_
        refine px_bipush (v := nI 23) dX6_drift_93 (by decide) ?_
        refine px_bL (b := 0) (sB_at _ _ _) dX6_drift_95 (by decide) (by omega) (show _ = (O.1.1 0).2 0 from R2.mn) ?_
        refine px_iremN dX6_drift_96 (by first | omega | exact hOK.lts (by decide)) (by first | omega | exact hOK.lts (by decide)) (by first | omega | exact hOK.lts (by decide)) ?_
        refine px_aload_n dX6_drift_97 rfl ?_
        refine px_get xk_X6 7 dX6_drift_98 (Or.inl fl_X6_23) MH_obj (by decide) rfl ?_
        refine px_iconst (v := nI 1) dX6_drift_101 (by decide) ?_
        refine px_bL (b := 0) (sB_at _ _ _) dX6_drift_102 (by decide) (by omega) (va_up_self _ _ _) ?_
        refine px_sipush (v := nI 128) dX6_drift_103 (by decide) ?_
        refine px_idivN dX6_drift_106 (by first | omega | exact hOK.lts (by decide)) (by first | omega | exact hOK.lts (by decide)) (by first | omega | exact hOK.lts (by decide)) ?_
        refine px_iconst (v := nI 2) dX6_drift_107 (by decide) ?_
        refine px_iremN dX6_drift_108 (by first | omega | exact hOK.lts (by decide)) (by first | omega | exact hOK.lts (by decide)) (by first | omega | exact hOK.lts (by decide)) ?_
        refine px_if_neN 116 dX6_drift_109 (by decide) (by first | omega | exact hOK.lts (by decide)) (fun c109 => ?_) (fun c109 => ?_)
        · refine px_iconst (v := nI 0) dX6_drift_116 (by decide) ?_
          refine px_sv (c_X6_setShows (k := 0) (by decide) R2 (tSS_ok hOK (by omega)) (L / 65536 % (O.1.1 0).2 0) false (by have := Nat.mod_lt (L / 65536) c73; omega)) mw_X6_setShows wt_X6_setShows (Or.inl ml_X6_130) dX6_drift_117 (by decide) rfl rfl (Nat.le_of_ble_eq_true rfl) ⟨rfl, rfl⟩ ?_
          have hR3 : Rep (va_up (va_up g1 1 L) 20 (if false = true then (tSS (O.1.1 0) 6 L).2 2 ||| 2 ^ (L / 65536 % (O.1.1 0).2 0) else ndif ((tSS (O.1.1 0) 6 L).2 2) (2 ^ (L / 65536 % (O.1.1 0).2 0)))) (tdraw (O.1.1 0)) := by rw [hd1 (Nat.ne_of_gt c73), decide_eq_false c109]; exact R2.ups2 hm6 hm4
          have hN3 := hN1.town hR3 (tdraw_ok hOK) (by rw [tdraw_4]; omega) tst_draw (fun q hq => by rw [va_up_ne _ _ (by omega), va_up_ne _ _ (by omega)])
          refine px_aload_n dX6_drift_120 rfl ?_
          refine px_aload_n dX6_drift_121 rfl ?_
          refine px_get xk_X6 7 dX6_drift_122 (Or.inl fl_X6_23) MH_obj (by decide) rfl ?_
          refine px_iconst (v := nI 0) dX6_drift_125 (by decide) ?_
          refine px_callV (M2 := mX6_nightIn) (c_X6_nightIn (k := 0) (by decide) (tdraw_ok hOK) (nI 0) hm0 hb0 hR3) mw_X6_nightIn wm_X6_nightIn we_X6_nightIn (Or.inl ml_X6_126) dX6_drift_126 MH_obj rfl (by decide) rfl rfl (Nat.le_of_ble_eq_true rfl) ⟨Nat.zero_le _, Nat.zero_le _⟩ (fun v h2 hq => ?_)
          obtain ⟨rfl, g4, pr, R4, hg4, rfl⟩ := hq
          refine px_inc_2 dX6_drift_129 rfl (nI_1 _) (by decide) rfl ?_
          refine px_goto 31 dX6_drift_132 (by decide) ?_
          have hN5 := hN3.town R4 (tpass_ok (tdraw_ok hOK) (by rw [tdraw_4]; omega)) (by rw [tpass_s.2.2.2.1, tdraw_4]; omega) tst_pass hg4
          exact ih (onight O true) _ (i + 1) (by omega) (hR.setN hN5) (by rw [onight_4]; omega) (by rw [hgo]; rfl)
        · refine px_iconst (v := nI 1) dX6_drift_112 (by decide) ?_
          refine px_goto 117 dX6_drift_113 (by decide) ?_
          refine px_sv (c_X6_setShows (k := 0) (by decide) R2 (tSS_ok hOK (by omega)) (L / 65536 % (O.1.1 0).2 0) true (by have := Nat.mod_lt (L / 65536) c73; omega)) mw_X6_setShows wt_X6_setShows (Or.inl ml_X6_130) dX6_drift_117 (by decide) rfl rfl (Nat.le_of_ble_eq_true rfl) ⟨rfl, rfl⟩ ?_
          have hR3 : Rep (va_up (va_up g1 1 L) 20 (if true = true then (tSS (O.1.1 0) 6 L).2 2 ||| 2 ^ (L / 65536 % (O.1.1 0).2 0) else ndif ((tSS (O.1.1 0) 6 L).2 2) (2 ^ (L / 65536 % (O.1.1 0).2 0)))) (tdraw (O.1.1 0)) := by rw [hd1 (Nat.ne_of_gt c73), decide_eq_true c109]; exact R2.ups2 hm6 hm4
          have hN3 := hN1.town hR3 (tdraw_ok hOK) (by rw [tdraw_4]; omega) tst_draw (fun q hq => by rw [va_up_ne _ _ (by omega), va_up_ne _ _ (by omega)])
          refine px_aload_n dX6_drift_120 rfl ?_
          refine px_aload_n dX6_drift_121 rfl ?_
          refine px_get xk_X6 7 dX6_drift_122 (Or.inl fl_X6_23) MH_obj (by decide) rfl ?_
          refine px_iconst (v := nI 0) dX6_drift_125 (by decide) ?_
          refine px_callV (M2 := mX6_nightIn) (c_X6_nightIn (k := 0) (by decide) (tdraw_ok hOK) (nI 0) hm0 hb0 hR3) mw_X6_nightIn wm_X6_nightIn we_X6_nightIn (Or.inl ml_X6_126) dX6_drift_126 MH_obj rfl (by decide) rfl rfl (Nat.le_of_ble_eq_true rfl) ⟨Nat.zero_le _, Nat.zero_le _⟩ (fun v h2 hq => ?_)
          obtain ⟨rfl, g4, pr, R4, hg4, rfl⟩ := hq
          refine px_inc_2 dX6_drift_129 rfl (nI_1 _) (by decide) rfl ?_
          refine px_goto 31 dX6_drift_132 (by decide) ?_
          have hN5 := hN3.town R4 (tpass_ok (tdraw_ok hOK) (by rw [tdraw_4]; omega)) (by rw [tpass_s.2.2.2.1, tdraw_4]; omega) tst_pass hg4
          exact ih (onight O true) _ (i + 1) (by omega) (hR.setN hN5) (by rw [onight_4]; omega) (by rw [hgo]; rfl)
set_option maxHeartbeats 4000000 in
set_option maxRecDepth 100000 in
theorem c_X6_drift_n {E : xE} {h : xHp} {w : Nat} {D : xMd} {O : xO} (hR : Rel O D) (x : Int32) (hx : ¬ ((nI 1 ≤ x ∧ x ≤ nI 40))) : PMX E mX6_drift [.ref w, .int x] h w D (-1) O := by
  have R := hR.1.1
  have hOK := hR.1.2.1.1
  have hm6 := hOK.1.1
  have hm4 := hOK.1.2.1
  have hN9 := hR.1.2.1.2
  refine pm_of [some (.ref w), some (.int x), none] (by decide +kernel) (Nat.le_of_ble_eq_true rfl) rfl ?_
  refine px_iload_n dX6_drift_0 rfl ?_
  refine px_iconst (v := nI 1) dX6_drift_1 (by decide) ?_
  refine px_bipush (v := nI 40) dX6_drift_2 (by decide) ?_
  refine px_si (c_X6_in (x) (nI 1) (nI 40)) mw_X6_in wt_X6_in (Or.inl ml_X6_38) dX6_drift_4 (by decide) rfl rfl (Nat.le_of_ble_eq_true rfl) ⟨rfl, rfl⟩ ?_
  refine px_if_neB 12 dX6_drift_7 (by decide) (fun c7 => ?_) (fun c7 => ?_)
  · exact absurd (of_decide_eq_true c7) hx
  · refine px_iconst (v := -1) dX6_drift_10 (by decide) ?_
    exact px_iret dX6_drift_11 rfl rfl rfl ⟨rfl, D, hR, rfl⟩
set_option maxHeartbeats 4000000 in
set_option maxRecDepth 100000 in
theorem c_X6_drift_f {E : xE} {h : xHp} {w : Nat} {D : xMd} {O : xO} (hR : Rel O D) (k : Nat) (h1 : 1 ≤ k) (hk : k ≤ 40) (hn : 9999 - k < (O.1.1 0).2 4) : PMX E mX6_drift [.ref w, .int (nI k)] h w D (-3) O := by
  have R := hR.1.1
  have hOK := hR.1.2.1.1
  have hm6 := hOK.1.1
  have hm4 := hOK.1.2.1
  have hN9 := hR.1.2.1.2
  refine pm_of [some (.ref w), some (.int (nI k)), none] (by decide +kernel) (Nat.le_of_ble_eq_true rfl) rfl ?_
  refine px_iload_n dX6_drift_0 rfl ?_
  refine px_iconst (v := nI 1) dX6_drift_1 (by decide) ?_
  refine px_bipush (v := nI 40) dX6_drift_2 (by decide) ?_
  refine px_si (c_X6_in (nI k) (nI 1) (nI 40)) mw_X6_in wt_X6_in (Or.inl ml_X6_38) dX6_drift_4 (by decide) rfl rfl (Nat.le_of_ble_eq_true rfl) ⟨rfl, rfl⟩ ?_
  refine px_if_neB 12 dX6_drift_7 (by decide) (fun c7 => ?_) (fun c7 => ?_)
  · refine px_aload_n dX6_drift_12 rfl ?_
    refine px_get xk_X6 7 dX6_drift_13 (Or.inl fl_X6_23) MH_obj (by decide) rfl ?_
    refine px_iconst (v := nI 0) dX6_drift_16 (by decide) ?_
    refine px_bL (b := 0) rfl dX6_drift_17 (by decide) (by omega) (R.nt) ?_
    refine px_iload_n dX6_drift_18 rfl ?_
    refine px_iaddN dX6_drift_19 ?_
    refine px_sipush (v := nI 9999) dX6_drift_20 (by decide) ?_
    refine px_icmp_leN 29 dX6_drift_23 (by decide) (by first | omega | exact hOK.lt (by decide) | exact hOK.lts (by decide)) (by first | omega | exact hOK.lt (by decide) | exact hOK.lts (by decide)) (fun c23 => ?_) (fun c23 => ?_)
    · omega
    · refine px_bipush (v := -3) dX6_drift_26 (by decide) ?_
      exact px_iret dX6_drift_28 rfl rfl rfl ⟨rfl, D, hR, rfl⟩
  · rw [in_t (by omega) (by omega) (by decide)] at c7
    cases c7
set_option maxHeartbeats 4000000 in
set_option maxRecDepth 100000 in
theorem c_X6_drift {E : xE} {h : xHp} {w : Nat} {D : xMd} {O : xO} (hR : Rel O D) (k : Nat) (h1 : 1 ≤ k) (hk : k ≤ 40) (hn : (O.1.1 0).2 4 ≤ 9999 - k) : PMX E mX6_drift [.ref w, .int (nI k)] h w D (nI (((ospend O true k).1.1 0).2 3)) (ospend O true k) := by
  have R := hR.1.1
  have hOK := hR.1.2.1.1
  have hm6 := hOK.1.1
  have hm4 := hOK.1.2.1
  have hN9 := hR.1.2.1.2
  refine pm_of [some (.ref w), some (.int (nI k)), none] (by decide +kernel) (Nat.le_of_ble_eq_true rfl) rfl ?_
  refine px_iload_n dX6_drift_0 rfl ?_
  refine px_iconst (v := nI 1) dX6_drift_1 (by decide) ?_
  refine px_bipush (v := nI 40) dX6_drift_2 (by decide) ?_
  refine px_si (c_X6_in (nI k) (nI 1) (nI 40)) mw_X6_in wt_X6_in (Or.inl ml_X6_38) dX6_drift_4 (by decide) rfl rfl (Nat.le_of_ble_eq_true rfl) ⟨rfl, rfl⟩ ?_
  refine px_if_neB 12 dX6_drift_7 (by decide) (fun c7 => ?_) (fun c7 => ?_)
  · refine px_aload_n dX6_drift_12 rfl ?_
    refine px_get xk_X6 7 dX6_drift_13 (Or.inl fl_X6_23) MH_obj (by decide) rfl ?_
    refine px_iconst (v := nI 0) dX6_drift_16 (by decide) ?_
    refine px_bL (b := 0) rfl dX6_drift_17 (by decide) (by omega) (R.nt) ?_
    refine px_iload_n dX6_drift_18 rfl ?_
    refine px_iaddN dX6_drift_19 ?_
    refine px_sipush (v := nI 9999) dX6_drift_20 (by decide) ?_
    refine px_icmp_leN 29 dX6_drift_23 (by decide) (by first | omega | exact hOK.lt (by decide) | exact hOK.lts (by decide)) (by first | omega | exact hOK.lt (by decide) | exact hOK.lts (by decide)) (fun c23 => ?_) (fun c23 => ?_)
    · refine px_iconst (v := nI 0) dX6_drift_29 (by decide) ?_
      refine px_istn_2 dX6_drift_30 (by decide) rfl ?_
      exact l_X6_drift hk k O D 0 (by omega) hR (by omega) rfl
    · omega
  · rw [in_t (by omega) (by omega) (by decide)] at c7
    cases c7
set_option maxHeartbeats 4000000 in
set_option maxRecDepth 100000 in
theorem c_X6_show_n {E : xE} {h : xHp} {w : Nat} {D : xMd} {O : xO} (hR : Rel O D) (x y : Int32) (hx : ¬ ((0 ≤ x ∧ x < nI ((O.1.1 0).2 0)) ∧ (nI 0 ≤ y ∧ y ≤ nI 1))) : PMX E mX6_show [.ref w, .int x, .int y] h w D (-1) O := by
  have R := hR.1.1
  have hOK := hR.1.2.1.1
  have hm6 := hOK.1.1
  have hm4 := hOK.1.2.1
  have hN9 := hR.1.2.1.2
  refine pm_of [some (.ref w), some (.int x), some (.int y)] (by decide +kernel) (Nat.le_of_ble_eq_true rfl) rfl ?_
  refine px_aload_n dX6_show_0 rfl ?_
  refine px_iload_n dX6_show_1 rfl ?_
  refine px_vi (M2 := mX6_isOne) (c_X6_isOne R hOK x) mw_X6_isOne wm_X6_isOne we_X6_isOne (Or.inl ml_X6_58) dX6_show_2 (MH_obj) rfl (by decide) rfl rfl (Nat.le_of_ble_eq_true rfl) ⟨rfl, rfl⟩ ?_
  refine px_if_eqB 17 dX6_show_5 (by decide) (fun c5 => ?_) (fun c5 => ?_)
  · refine px_iconst (v := -1) dX6_show_17 (by decide) ?_
    exact px_iret dX6_show_18 rfl rfl rfl ⟨rfl, D, hR, rfl⟩
  · refine px_iload_n dX6_show_8 rfl ?_
    refine px_iconst (v := nI 0) dX6_show_9 (by decide) ?_
    refine px_iconst (v := nI 1) dX6_show_10 (by decide) ?_
    refine px_si (c_X6_in (y) (nI 0) (nI 1)) mw_X6_in wt_X6_in (Or.inl ml_X6_38) dX6_show_11 (by decide) rfl rfl (Nat.le_of_ble_eq_true rfl) ⟨rfl, rfl⟩ ?_
    refine px_if_neB 19 dX6_show_14 (by decide) (fun c14 => ?_) (fun c14 => ?_)
    · exact absurd ⟨of_decide_eq_true c5, of_decide_eq_true c14⟩ hx
    · refine px_iconst (v := -1) dX6_show_17 (by decide) ?_
      exact px_iret dX6_show_18 rfl rfl rfl ⟨rfl, D, hR, rfl⟩
set_option maxHeartbeats 4000000 in
set_option maxRecDepth 100000 in
theorem c_X6_show_o {E : xE} {h : xHp} {w : Nat} {D : xMd} {O : xO} (hR : Rel O D) (a : Nat) (v : Bool) (ha : a < (O.1.1 0).2 0) (hn : ((O.1.1 0).2 3).testBit a = true ∨ ((O.1.1 0).2 2).testBit a = v) : PMX E mX6_show [.ref w, .int (nI a), .int (bI v)] h w D (-2) O := by
  have R := hR.1.1
  have hOK := hR.1.2.1.1
  have hm6 := hOK.1.1
  have hm4 := hOK.1.2.1
  have hN9 := hR.1.2.1.2
  refine pm_of [some (.ref w), some (.int (nI a)), some (.int (bI v))] (by decide +kernel) (Nat.le_of_ble_eq_true rfl) rfl ?_
  refine px_aload_n dX6_show_0 rfl ?_
  refine px_iload_n dX6_show_1 rfl ?_
  refine px_vi (M2 := mX6_isOne) (c_m1_y R hOK ha) mw_X6_isOne wm_X6_isOne we_X6_isOne (Or.inl ml_X6_58) dX6_show_2 (MH_obj) rfl (by decide) rfl rfl (Nat.le_of_ble_eq_true rfl) ⟨rfl, rfl⟩ ?_
  refine px_if_eqB 17 dX6_show_5 (by decide) (fun c5 => ?_) (fun c5 => ?_)
  · cases c5
  · refine px_iload_n dX6_show_8 rfl ?_
    refine px_iconst (v := nI 0) dX6_show_9 (by decide) ?_
    refine px_iconst (v := nI 1) dX6_show_10 (by decide) ?_
    refine px_si (c_X6_in (bI v) (nI 0) (nI 1)) mw_X6_in wt_X6_in (Or.inl ml_X6_38) dX6_show_11 (by decide) rfl rfl (Nat.le_of_ble_eq_true rfl) ⟨rfl, rfl⟩ ?_
    refine px_if_neB 19 dX6_show_14 (by decide) (fun c14 => ?_) (fun c14 => ?_)
    · refine px_aload_n dX6_show_19 rfl ?_
      refine px_get xk_X6 7 dX6_show_20 (Or.inl fl_X6_23) MH_obj (by decide) rfl ?_
      refine px_bipush (v := nI 20) dX6_show_23 (by decide) ?_
      refine px_bL (b := 0) rfl dX6_show_25 (by decide) (by omega) (R.sh) ?_
      refine px_iload_n dX6_show_26 rfl ?_
      refine px_ishrN dX6_show_27 (by first | omega | exact hOK.lt (by decide) | exact hOK.lts (by decide)) (by omega) ?_
      refine px_iconst (v := nI 1) dX6_show_28 (by decide) ?_
      refine px_iandN dX6_show_29 ?_
      refine px_topi (show _ = bI (((O.1.1 0).2 2).testBit a) from congrArg nI (bit1 _ _)) ?_
      refine px_iload_n dX6_show_30 rfl ?_
      refine px_icmp_eq 48 dX6_show_31 (by decide) (fun c31 => ?_) (fun c31 => ?_)
      · refine px_bipush (v := -2) dX6_show_48 (by decide) ?_
        exact px_iret dX6_show_50 rfl rfl rfl ⟨rfl, D, hR, rfl⟩
      · refine px_aload_n dX6_show_34 rfl ?_
        refine px_get xk_X6 7 dX6_show_35 (Or.inl fl_X6_23) MH_obj (by decide) rfl ?_
        refine px_bipush (v := nI 21) dX6_show_38 (by decide) ?_
        refine px_bL (b := 0) rfl dX6_show_40 (by decide) (by omega) (R.sw) ?_
        refine px_iload_n dX6_show_41 rfl ?_
        refine px_si (c_X6_has_n ((O.1.1 0).2 3) a (by have := hOK.1.2.2.2.1; omega) (by omega)) mw_X6_has wt_X6_has (Or.inl ml_X6_50) dX6_show_42 (by decide) rfl rfl (Nat.le_of_ble_eq_true rfl) ⟨rfl, rfl⟩ ?_
        refine px_if_eqB 51 dX6_show_45 (by decide) (fun c45 => ?_) (fun c45 => ?_)
        · exact absurd hn (fun q => q.elim (fun z => by rw [c45] at z; cases z) (fun z => c31 (by rw [z])))
        · refine px_bipush (v := -2) dX6_show_48 (by decide) ?_
          exact px_iret dX6_show_50 rfl rfl rfl ⟨rfl, D, hR, rfl⟩
    · rw [bI_in v] at c14
      cases c14
set_option maxHeartbeats 4000000 in
set_option maxRecDepth 100000 in
theorem c_X6_show {E : xE} {h : xHp} {w : Nat} {D : xMd} {O : xO} (hR : Rel O D) (a : Nat) (v : Bool) (ha : a < (O.1.1 0).2 0) (hs : ((O.1.1 0).2 3).testBit a = false) (hn : ((O.1.1 0).2 2).testBit a ≠ v) : PMX E mX6_show [.ref w, .int (nI a), .int (bI v)] h w D (nI ((tshow (O.1.1 0) a v).2 2)) (oT (oP O 0 (pkeep (O.1.2 0) (O.1.1 0))) 0 (tshow (O.1.1 0) a v)) := by
  have R := hR.1.1
  have hOK := hR.1.2.1.1
  have hm6 := hOK.1.1
  have hm4 := hOK.1.2.1
  have hN9 := hR.1.2.1.2
  refine pm_of [some (.ref w), some (.int (nI a)), some (.int (bI v))] (by decide +kernel) (Nat.le_of_ble_eq_true rfl) rfl ?_
  refine px_aload_n dX6_show_0 rfl ?_
  refine px_iload_n dX6_show_1 rfl ?_
  refine px_vi (M2 := mX6_isOne) (c_m1_y R hOK ha) mw_X6_isOne wm_X6_isOne we_X6_isOne (Or.inl ml_X6_58) dX6_show_2 (MH_obj) rfl (by decide) rfl rfl (Nat.le_of_ble_eq_true rfl) ⟨rfl, rfl⟩ ?_
  refine px_if_eqB 17 dX6_show_5 (by decide) (fun c5 => ?_) (fun c5 => ?_)
  · cases c5
  · refine px_iload_n dX6_show_8 rfl ?_
    refine px_iconst (v := nI 0) dX6_show_9 (by decide) ?_
    refine px_iconst (v := nI 1) dX6_show_10 (by decide) ?_
    refine px_si (c_X6_in (bI v) (nI 0) (nI 1)) mw_X6_in wt_X6_in (Or.inl ml_X6_38) dX6_show_11 (by decide) rfl rfl (Nat.le_of_ble_eq_true rfl) ⟨rfl, rfl⟩ ?_
    refine px_if_neB 19 dX6_show_14 (by decide) (fun c14 => ?_) (fun c14 => ?_)
    · refine px_aload_n dX6_show_19 rfl ?_
      refine px_get xk_X6 7 dX6_show_20 (Or.inl fl_X6_23) MH_obj (by decide) rfl ?_
      refine px_bipush (v := nI 20) dX6_show_23 (by decide) ?_
      refine px_bL (b := 0) rfl dX6_show_25 (by decide) (by omega) (R.sh) ?_
      refine px_iload_n dX6_show_26 rfl ?_
      refine px_ishrN dX6_show_27 (by first | omega | exact hOK.lt (by decide) | exact hOK.lts (by decide)) (by omega) ?_
      refine px_iconst (v := nI 1) dX6_show_28 (by decide) ?_
      refine px_iandN dX6_show_29 ?_
      refine px_topi (show _ = bI (((O.1.1 0).2 2).testBit a) from congrArg nI (bit1 _ _)) ?_
      refine px_iload_n dX6_show_30 rfl ?_
      refine px_icmp_eq 48 dX6_show_31 (by decide) (fun c31 => ?_) (fun c31 => ?_)
      · exact absurd ((bI_inj _ _).mp c31) hn
      · refine px_aload_n dX6_show_34 rfl ?_
        refine px_get xk_X6 7 dX6_show_35 (Or.inl fl_X6_23) MH_obj (by decide) rfl ?_
        refine px_bipush (v := nI 21) dX6_show_38 (by decide) ?_
        refine px_bL (b := 0) rfl dX6_show_40 (by decide) (by omega) (R.sw) ?_
        refine px_iload_n dX6_show_41 rfl ?_
        refine px_si (c_X6_has_n ((O.1.1 0).2 3) a (by have := hOK.1.2.2.2.1; omega) (by omega)) mw_X6_has wt_X6_has (Or.inl ml_X6_50) dX6_show_42 (by decide) rfl rfl (Nat.le_of_ble_eq_true rfl) ⟨rfl, rfl⟩ ?_
        refine px_if_eqB 51 dX6_show_45 (by decide) (fun c45 => ?_) (fun c45 => ?_)
        · refine px_aload_n dX6_show_51 rfl ?_
          refine px_callV (M2 := mX6_note) (c_X6_note hR.1) mw_X6_note wm_X6_note we_X6_note (Or.inl ml_X6_123) dX6_show_52 MH_obj rfl (by decide) rfl rfl (Nat.le_of_ble_eq_true rfl) ⟨Nat.zero_le _, Nat.zero_le _⟩ (fun v h2 hq => ?_)
          obtain ⟨rfl, g1, hN1, rfl⟩ := hq
          refine px_aload_n dX6_show_55 rfl ?_
          refine px_get xk_X6 7 dX6_show_56 (Or.inl fl_X6_23) MH_obj (by decide) rfl ?_
          refine px_iload_n dX6_show_59 rfl ?_
          refine px_iload_n dX6_show_60 rfl ?_
          refine px_iconst (v := nI 1) dX6_show_61 (by decide) ?_
          refine px_icmp_ne 69 dX6_show_62 (by decide) (fun c62 => ?_) (fun c62 => ?_)
          · refine px_iconst (v := nI 0) dX6_show_69 (by decide) ?_
            refine px_sv (c_X6_setShows (k := 0) (by decide) hN1.1 hOK a false (by omega)) mw_X6_setShows wt_X6_setShows (Or.inl ml_X6_130) dX6_show_70 (by decide) rfl rfl (Nat.le_of_ble_eq_true rfl) ⟨rfl, rfl⟩ ?_
            refine px_aload_n dX6_show_73 rfl ?_
            refine px_get xk_X6 7 dX6_show_74 (Or.inl fl_X6_23) MH_obj (by decide) rfl ?_
            refine px_bipush (v := nI 20) dX6_show_77 (by decide) ?_
            refine px_bL (b := 0) (sB_at _ _ _) dX6_show_79 (by decide) (by omega) (va_up_self _ _ _) ?_
            have hv1 : v = false := by cases v with | false => rfl | true => exact absurd rfl c62
            subst hv1
            exact px_iret dX6_show_80 rfl rfl rfl ⟨rfl, _, hR.setN (pr := mPr D) (hN1.town (hN1.1.ups2 hm6 hm4) (tshow_ok hOK (by omega)) hN9 tst_show (fun q hq => va_up_ne _ _ (by omega))), rfl⟩
          · refine px_iconst (v := nI 1) dX6_show_65 (by decide) ?_
            refine px_goto 70 dX6_show_66 (by decide) ?_
            refine px_sv (c_X6_setShows (k := 0) (by decide) hN1.1 hOK a true (by omega)) mw_X6_setShows wt_X6_setShows (Or.inl ml_X6_130) dX6_show_70 (by decide) rfl rfl (Nat.le_of_ble_eq_true rfl) ⟨rfl, rfl⟩ ?_
            refine px_aload_n dX6_show_73 rfl ?_
            refine px_get xk_X6 7 dX6_show_74 (Or.inl fl_X6_23) MH_obj (by decide) rfl ?_
            refine px_bipush (v := nI 20) dX6_show_77 (by decide) ?_
            refine px_bL (b := 0) (sB_at _ _ _) dX6_show_79 (by decide) (by omega) (va_up_self _ _ _) ?_
            have hv1 : v = true := (bI_1 v).mp c62
            subst hv1
            exact px_iret dX6_show_80 rfl rfl rfl ⟨rfl, _, hR.setN (pr := mPr D) (hN1.town (hN1.1.ups2 hm6 hm4) (tshow_ok hOK (by omega)) hN9 tst_show (fun q hq => va_up_ne _ _ (by omega))), rfl⟩
        · rw [hs] at c45
          cases c45
    · rw [bI_in v] at c14
      cases c14
set_option maxHeartbeats 4000000 in
set_option maxRecDepth 100000 in
theorem c_X6_teach_n {E : xE} {h : xHp} {w : Nat} {D : xMd} {O : xO} (hR : Rel O D) (x y : Int32) (hx : ¬ ((0 ≤ x ∧ x < nI ((O.1.1 0).2 0)) ∧ (nI 0 ≤ y ∧ y ≤ nI 9))) : PMX E mX6_teach [.ref w, .int x, .int y] h w D (-1) O := by
  have R := hR.1.1
  have hOK := hR.1.2.1.1
  have hm6 := hOK.1.1
  have hm4 := hOK.1.2.1
  have hN9 := hR.1.2.1.2
  refine pm_of [some (.ref w), some (.int x), some (.int y), none] (by decide +kernel) (Nat.le_of_ble_eq_true rfl) rfl ?_
  refine px_aload_n dX6_teach_0 rfl ?_
  refine px_iload_n dX6_teach_1 rfl ?_
  refine px_vi (M2 := mX6_isOne) (c_X6_isOne R hOK x) mw_X6_isOne wm_X6_isOne we_X6_isOne (Or.inl ml_X6_58) dX6_teach_2 (MH_obj) rfl (by decide) rfl rfl (Nat.le_of_ble_eq_true rfl) ⟨rfl, rfl⟩ ?_
  refine px_if_eqB 18 dX6_teach_5 (by decide) (fun c5 => ?_) (fun c5 => ?_)
  · refine px_iconst (v := -1) dX6_teach_18 (by decide) ?_
    exact px_iret dX6_teach_19 rfl rfl rfl ⟨rfl, D, hR, rfl⟩
  · refine px_iload_n dX6_teach_8 rfl ?_
    refine px_iconst (v := nI 0) dX6_teach_9 (by decide) ?_
    refine px_bipush (v := nI 9) dX6_teach_10 (by decide) ?_
    refine px_si (c_X6_in (y) (nI 0) (nI 9)) mw_X6_in wt_X6_in (Or.inl ml_X6_38) dX6_teach_12 (by decide) rfl rfl (Nat.le_of_ble_eq_true rfl) ⟨rfl, rfl⟩ ?_
    refine px_if_neB 20 dX6_teach_15 (by decide) (fun c15 => ?_) (fun c15 => ?_)
    · exact absurd ⟨of_decide_eq_true c5, of_decide_eq_true c15⟩ hx
    · refine px_iconst (v := -1) dX6_teach_18 (by decide) ?_
      exact px_iret dX6_teach_19 rfl rfl rfl ⟨rfl, D, hR, rfl⟩
set_option maxHeartbeats 4000000 in
set_option maxRecDepth 100000 in
theorem c_X6_teach_o {E : xE} {h : xHp} {w : Nat} {D : xMd} {O : xO} (hR : Rel O D) (a c : Nat) (ha : a < (O.1.1 0).2 0) (hc : c ≤ 9) (hn : (O.1.1 0).1 3 a = c) : PMX E mX6_teach [.ref w, .int (nI a), .int (nI c)] h w D (-2) O := by
  have R := hR.1.1
  have hOK := hR.1.2.1.1
  have hm6 := hOK.1.1
  have hm4 := hOK.1.2.1
  have hN9 := hR.1.2.1.2
  refine pm_of [some (.ref w), some (.int (nI a)), some (.int (nI c)), none] (by decide +kernel) (Nat.le_of_ble_eq_true rfl) rfl ?_
  refine px_aload_n dX6_teach_0 rfl ?_
  refine px_iload_n dX6_teach_1 rfl ?_
  refine px_vi (M2 := mX6_isOne) (c_m1_y R hOK ha) mw_X6_isOne wm_X6_isOne we_X6_isOne (Or.inl ml_X6_58) dX6_teach_2 (MH_obj) rfl (by decide) rfl rfl (Nat.le_of_ble_eq_true rfl) ⟨rfl, rfl⟩ ?_
  refine px_if_eqB 18 dX6_teach_5 (by decide) (fun c5 => ?_) (fun c5 => ?_)
  · cases c5
  · refine px_iload_n dX6_teach_8 rfl ?_
    refine px_iconst (v := nI 0) dX6_teach_9 (by decide) ?_
    refine px_bipush (v := nI 9) dX6_teach_10 (by decide) ?_
    refine px_si (c_X6_in (nI c) (nI 0) (nI 9)) mw_X6_in wt_X6_in (Or.inl ml_X6_38) dX6_teach_12 (by decide) rfl rfl (Nat.le_of_ble_eq_true rfl) ⟨rfl, rfl⟩ ?_
    refine px_if_neB 20 dX6_teach_15 (by decide) (fun c15 => ?_) (fun c15 => ?_)
    · refine px_aload_n dX6_teach_20 rfl ?_
      refine px_get xk_X6 7 dX6_teach_21 (Or.inl fl_X6_23) MH_obj (by decide) rfl ?_
      refine px_bipush (v := nI 14) dX6_teach_24 (by decide) ?_
      refine px_iload_n dX6_teach_26 rfl ?_
      refine px_iaddN dX6_teach_27 ?_
      refine px_bL (b := 0) rfl dX6_teach_28 (by decide) (by omega) (R.ca ha) ?_
      refine px_istn_3 dX6_teach_29 (by decide) rfl ?_
      refine px_iload_n dX6_teach_30 rfl ?_
      refine px_iload_n dX6_teach_31 rfl ?_
      refine px_icmp_neN 38 dX6_teach_32 (by decide) (by first | omega | exact hOK.lt (by decide) | exact hOK.lts (by decide)) (by first | omega | exact hOK.lt (by decide) | exact hOK.lts (by decide)) (fun c32 => ?_) (fun c32 => ?_)
      · exact absurd hn c32
      · refine px_bipush (v := -2) dX6_teach_35 (by decide) ?_
        exact px_iret dX6_teach_37 rfl rfl rfl ⟨rfl, D, hR, rfl⟩
    · rw [in_t (by omega) (by omega) (by decide)] at c15
      cases c15
set_option maxHeartbeats 4000000 in
set_option maxRecDepth 100000 in
theorem c_X6_teach {E : xE} {h : xHp} {w : Nat} {D : xMd} {O : xO} (hR : Rel O D) (a c : Nat) (ha : a < (O.1.1 0).2 0) (hc : c ≤ 9) (hn : (O.1.1 0).1 3 a ≠ c) : PMX E mX6_teach [.ref w, .int (nI a), .int (nI c)] h w D (nI ((O.1.1 0).1 3 a)) (oT (oP O 0 (pkeep (O.1.2 0) (O.1.1 0))) 0 (tSA (O.1.1 0) 3 a c)) := by
  have R := hR.1.1
  have hOK := hR.1.2.1.1
  have hm6 := hOK.1.1
  have hm4 := hOK.1.2.1
  have hN9 := hR.1.2.1.2
  refine pm_of [some (.ref w), some (.int (nI a)), some (.int (nI c)), none] (by decide +kernel) (Nat.le_of_ble_eq_true rfl) rfl ?_
  refine px_aload_n dX6_teach_0 rfl ?_
  refine px_iload_n dX6_teach_1 rfl ?_
  refine px_vi (M2 := mX6_isOne) (c_m1_y R hOK ha) mw_X6_isOne wm_X6_isOne we_X6_isOne (Or.inl ml_X6_58) dX6_teach_2 (MH_obj) rfl (by decide) rfl rfl (Nat.le_of_ble_eq_true rfl) ⟨rfl, rfl⟩ ?_
  refine px_if_eqB 18 dX6_teach_5 (by decide) (fun c5 => ?_) (fun c5 => ?_)
  · cases c5
  · refine px_iload_n dX6_teach_8 rfl ?_
    refine px_iconst (v := nI 0) dX6_teach_9 (by decide) ?_
    refine px_bipush (v := nI 9) dX6_teach_10 (by decide) ?_
    refine px_si (c_X6_in (nI c) (nI 0) (nI 9)) mw_X6_in wt_X6_in (Or.inl ml_X6_38) dX6_teach_12 (by decide) rfl rfl (Nat.le_of_ble_eq_true rfl) ⟨rfl, rfl⟩ ?_
    refine px_if_neB 20 dX6_teach_15 (by decide) (fun c15 => ?_) (fun c15 => ?_)
    · refine px_aload_n dX6_teach_20 rfl ?_
      refine px_get xk_X6 7 dX6_teach_21 (Or.inl fl_X6_23) MH_obj (by decide) rfl ?_
      refine px_bipush (v := nI 14) dX6_teach_24 (by decide) ?_
      refine px_iload_n dX6_teach_26 rfl ?_
      refine px_iaddN dX6_teach_27 ?_
      refine px_bL (b := 0) rfl dX6_teach_28 (by decide) (by omega) (R.ca ha) ?_
      refine px_istn_3 dX6_teach_29 (by decide) rfl ?_
      refine px_iload_n dX6_teach_30 rfl ?_
      refine px_iload_n dX6_teach_31 rfl ?_
      refine px_icmp_neN 38 dX6_teach_32 (by decide) (by first | omega | exact hOK.lt (by decide) | exact hOK.lts (by decide)) (by first | omega | exact hOK.lt (by decide) | exact hOK.lts (by decide)) (fun c32 => ?_) (fun c32 => ?_)
      · refine px_aload_n dX6_teach_38 rfl ?_
        refine px_callV (M2 := mX6_note) (c_X6_note hR.1) mw_X6_note wm_X6_note we_X6_note (Or.inl ml_X6_123) dX6_teach_39 MH_obj rfl (by decide) rfl rfl (Nat.le_of_ble_eq_true rfl) ⟨Nat.zero_le _, Nat.zero_le _⟩ (fun v h2 hq => ?_)
        obtain ⟨rfl, g1, hN1, rfl⟩ := hq
        refine px_aload_n dX6_teach_42 rfl ?_
        refine px_get xk_X6 7 dX6_teach_43 (Or.inl fl_X6_23) MH_obj (by decide) rfl ?_
        refine px_bipush (v := nI 14) dX6_teach_46 (by decide) ?_
        refine px_iload_n dX6_teach_48 rfl ?_
        refine px_iaddN dX6_teach_49 ?_
        refine px_iload_n dX6_teach_50 rfl ?_
        refine px_bWs (b := 0) dX6_teach_51 (by decide) (by omega) ?_
        refine px_iload_n dX6_teach_52 rfl ?_
        exact px_iret dX6_teach_53 rfl rfl rfl ⟨rfl, _, hR.setN (pr := mPr D) (hN1.town (hN1.1.up3 hm6 hm4 (by omega)) (tSA_ok hOK (by omega)) hN9 ⟨⟨rfl, rfl⟩, fun _ _ => rfl, fun _ _ => ⟨rfl, rfl⟩⟩ (fun q hq => va_up_ne _ _ (by omega))), rfl⟩
      · exact absurd c32 hn
    · rw [in_t (by omega) (by omega) (by decide)] at c15
      cases c15
set_option maxHeartbeats 4000000 in
set_option maxRecDepth 100000 in
theorem c_X6_undo_o {E : xE} {h : xHp} {w : Nat} {D : xMd} {O : xO} (hR : Rel O D) (hk : (O.1.2 0).2.2 = 0) : PMX E mX6_undo [.ref w] h w D (-4) O := by
  have R := hR.1.1
  have hOK := hR.1.2.1.1
  have hm6 := hOK.1.1
  have hm4 := hOK.1.2.1
  have hN9 := hR.1.2.1.2
  refine pm_of [some (.ref w)] (by decide +kernel) (Nat.le_of_ble_eq_true rfl) rfl ?_
  refine px_aload_n dX6_undo_0 rfl ?_
  refine px_get xk_X6 7 dX6_undo_1 (Or.inl fl_X6_23) MH_obj (by decide) rfl ?_
  refine px_bipush (v := nI 39) dX6_undo_4 (by decide) ?_
  refine px_bL (b := 0) rfl dX6_undo_6 (by decide) (by omega) (hR.1.2.2.1) ?_
  refine px_if_neN 13 dX6_undo_7 (by decide) (by have := hR.1.2.2.2.1; omega) (fun c7 => ?_) (fun c7 => ?_)
  · exact absurd hk c7
  · refine px_bipush (v := -4) dX6_undo_10 (by decide) ?_
    exact px_iret dX6_undo_12 rfl rfl rfl ⟨rfl, D, hR, rfl⟩
set_option maxHeartbeats 4000000 in
set_option maxRecDepth 100000 in
theorem c_X6_undo {E : xE} {h : xHp} {w : Nat} {D : xMd} {O : xO} (hR : Rel O D) (h0 : 0 < (O.1.2 0).2.2) : PMX E mX6_undo [.ref w] h w D (nI ((pback (O.1.2 0)).2.2)) (oP (oT O 0 (ptown (O.1.2 0) (O.1.1 0))) 0 (pback (O.1.2 0))) := by
  have R := hR.1.1
  have hOK := hR.1.2.1.1
  have hm6 := hOK.1.1
  have hm4 := hOK.1.2.1
  have hN9 := hR.1.2.1.2
  have h8 := hR.1.2.2.2.1
  refine pm_of [some (.ref w)] (by decide +kernel) (Nat.le_of_ble_eq_true rfl) rfl ?_
  refine px_aload_n dX6_undo_0 rfl ?_
  refine px_get xk_X6 7 dX6_undo_1 (Or.inl fl_X6_23) MH_obj (by decide) rfl ?_
  refine px_bipush (v := nI 39) dX6_undo_4 (by decide) ?_
  refine px_bL (b := 0) rfl dX6_undo_6 (by decide) (by omega) (hR.1.2.2.1) ?_
  refine px_if_neN 13 dX6_undo_7 (by decide) (by omega) (fun c7 => ?_) (fun c7 => ?_)
  · refine px_aload_n dX6_undo_13 rfl ?_
    refine px_get xk_X6 7 dX6_undo_14 (Or.inl fl_X6_23) MH_obj (by decide) rfl ?_
    refine px_bipush (v := nI 39) dX6_undo_17 (by decide) ?_
    refine px_dup2 dX6_undo_19 rfl rfl ?_
    refine px_bL (b := 0) rfl dX6_undo_20 (by decide) (by omega) (hR.1.2.2.1) ?_
    refine px_iconst (v := nI 1) dX6_undo_21 (by decide) ?_
    refine px_isubN dX6_undo_22 (by omega) ?_
    refine px_bW (b := 0) dX6_undo_23 (by decide) (by decide) ?_
    refine px_aload_n dX6_undo_24 rfl ?_
    refine px_get xk_X6 7 dX6_undo_25 (Or.inl fl_X6_23) MH_obj (by decide) rfl ?_
    refine px_bipush (v := nI 40) dX6_undo_28 (by decide) ?_
    refine px_bipush (v := nI 22) dX6_undo_30 (by decide) ?_
    refine px_aload_n dX6_undo_32 rfl ?_
    refine px_get xk_X6 7 dX6_undo_33 (Or.inl fl_X6_23) MH_obj (by decide) rfl ?_
    refine px_bipush (v := nI 39) dX6_undo_36 (by decide) ?_
    refine px_bL (b := 0) (sB_at _ _ _) dX6_undo_38 (by decide) (by omega) (va_up_self _ _ _) ?_
    refine px_imulN dX6_undo_39 ?_
    refine px_iaddN dX6_undo_40 ?_
    refine px_aload_n dX6_undo_41 rfl ?_
    refine px_get xk_X6 7 dX6_undo_42 (Or.inl fl_X6_23) MH_obj (by decide) rfl ?_
    refine px_iconst (v := nI 0) dX6_undo_45 (by decide) ?_
    refine px_bipush (v := nI 22) dX6_undo_46 (by decide) ?_
    refine px_sv (c_X6_bring 0 (40 + 22 * ((O.1.2 0).2.2 - 1)) 0 0 22 (by decide) (by decide) (by omega) (by omega) (Or.inr (Or.inl (by omega)))) mw_X6_bring wt_X6_bring (Or.inl ml_X6_108) dX6_undo_48 (by decide) rfl rfl (Nat.le_of_ble_eq_true rfl) ⟨rfl, rfl⟩ ?_
    refine px_heap (h2 := MH E h w (sB D 0 (va_cpy (va_up (D.1 0) 39 ((O.1.2 0).2.2 - 1)) (va_up (D.1 0) 39 ((O.1.2 0).2.2 - 1)) (40 + 22 * ((O.1.2 0).2.2 - 1)) 0 22))) (by rw [brc_ss]) ?_
    refine px_aload_n dX6_undo_51 rfl ?_
    refine px_get xk_X6 7 dX6_undo_52 (Or.inl fl_X6_23) MH_obj (by decide) rfl ?_
    refine px_bipush (v := nI 39) dX6_undo_55 (by decide) ?_
    refine px_bL (b := 0) (sB_at _ _ _) dX6_undo_57 (by decide) (by omega) ((cpy_out (by omega)).trans (va_up_self _ _ _)) ?_
    exact px_iret dX6_undo_58 rfl rfl rfl ⟨rfl, sB D 0 (va_cpy (va_up (D.1 0) 39 ((O.1.2 0).2.2 - 1)) (va_up (D.1 0) 39 ((O.1.2 0).2.2 - 1)) (40 + 22 * ((O.1.2 0).2.2 - 1)) 0 22), ⟨(by rw [sB_at]; exact hR.1.back (b := (O.1.2 0).2.2 - 1) (by omega)), hR.2⟩, rfl⟩
  · omega
theorem cpy_in {f g : Nat → Nat} {n x : Nat} (h : x < n) : va_cpy f g 0 0 n x = f x := by
  unfold va_cpy
  rw [if_pos (by omega)]
  congr 1
  omega
set_option maxHeartbeats 4000000 in
set_option maxRecDepth 100000 in
theorem c_X6_image {E : xE} {h : xHp} {w : Nat} {D : xMd} {O : xO} (hR : Rel O D)  : PMX E mX6_image [.ref w] h w D (nI 1) (oB (oP (oT O 1 (O.1.1 0)) 1 (O.1.2 0)) true) := by
  have R := hR.1.1
  have hOK := hR.1.2.1.1
  have hm6 := hOK.1.1
  have hm4 := hOK.1.2.1
  have hN9 := hR.1.2.1.2
  refine pm_of [some (.ref w)] (by decide +kernel) (Nat.le_of_ble_eq_true rfl) rfl ?_
  refine px_aload_n dX6_image_0 rfl ?_
  refine px_get xk_X6 7 dX6_image_1 (Or.inl fl_X6_23) MH_obj (by decide) rfl ?_
  refine px_iconst (v := nI 0) dX6_image_4 (by decide) ?_
  refine px_aload_n dX6_image_5 rfl ?_
  refine px_get xk_X6 10 dX6_image_6 (Or.inl fl_X6_32) MH_obj (by decide) rfl ?_
  refine px_iconst (v := nI 0) dX6_image_9 (by decide) ?_
  refine px_sipush (v := nI 216) dX6_image_10 (by decide) ?_
  refine px_sv (c_X6_bring 0 0 3 0 216 (by decide) (by decide) (by decide) (by decide) (Or.inl (by decide))) mw_X6_bring wt_X6_bring (Or.inl ml_X6_108) dX6_image_13 (by decide) rfl rfl (Nat.le_of_ble_eq_true rfl) ⟨rfl, rfl⟩ ?_
  refine px_aload_n dX6_image_16 rfl ?_
  refine px_iconst (v := nI 1) dX6_image_17 (by decide) ?_
  refine px_pIk dX6_image_18 (Or.inl fl_X6_155) ?_
  refine px_iconst (v := nI 1) dX6_image_21 (by decide) ?_
  exact px_iret dX6_image_22 rfl rfl rfl ⟨rfl, sIk (brc D 0 0 3 0 216) true, ⟨hR.1, ⟨rfl, fun _ => hR.1.cong (fun q hq => by show va_up D.1 3 (va_cpy (D.1 0) (D.1 3) 0 0 216) 3 q = D.1 0 q; rw [va_up_self]; exact cpy_in hq)⟩, hR.2.2⟩, rfl⟩
set_option maxHeartbeats 4000000 in
set_option maxRecDepth 100000 in
theorem c_X6_restore_o {E : xE} {h : xHp} {w : Nat} {D : xMd} {O : xO} (hR : Rel O D) (hk : O.2.2.2 = false) : PMX E mX6_restore [.ref w] h w D (-4) O := by
  have R := hR.1.1
  have hOK := hR.1.2.1.1
  have hm6 := hOK.1.1
  have hm4 := hOK.1.2.1
  have hN9 := hR.1.2.1.2
  refine pm_of [some (.ref w)] (by decide +kernel) (Nat.le_of_ble_eq_true rfl) rfl ?_
  refine px_aload_n dX6_restore_0 rfl ?_
  refine px_get xk_X6 11 dX6_restore_1 (Or.inl fl_X6_155) MH_obj (by decide) rfl ?_
  refine px_if_neB 10 dX6_restore_4 (by decide) (fun c4 => ?_) (fun c4 => ?_)
  · rw [hR.2.1.1, hk] at c4
    cases c4
  · refine px_bipush (v := -4) dX6_restore_7 (by decide) ?_
    exact px_iret dX6_restore_9 rfl rfl rfl ⟨rfl, D, hR, rfl⟩
set_option maxHeartbeats 4000000 in
set_option maxRecDepth 100000 in
theorem c_X6_restore {E : xE} {h : xHp} {w : Nat} {D : xMd} {O : xO} (hR : Rel O D) (hk : O.2.2.2 = true) : PMX E mX6_restore [.ref w] h w D (nI 1) (oP (oT O 0 (O.1.1 1)) 0 (O.1.2 1)) := by
  have R := hR.1.1
  have hOK := hR.1.2.1.1
  have hm6 := hOK.1.1
  have hm4 := hOK.1.2.1
  have hN9 := hR.1.2.1.2
  refine pm_of [some (.ref w)] (by decide +kernel) (Nat.le_of_ble_eq_true rfl) rfl ?_
  refine px_aload_n dX6_restore_0 rfl ?_
  refine px_get xk_X6 11 dX6_restore_1 (Or.inl fl_X6_155) MH_obj (by decide) rfl ?_
  refine px_if_neB 10 dX6_restore_4 (by decide) (fun c4 => ?_) (fun c4 => ?_)
  · refine px_aload_n dX6_restore_10 rfl ?_
    refine px_get xk_X6 10 dX6_restore_11 (Or.inl fl_X6_32) MH_obj (by decide) rfl ?_
    refine px_iconst (v := nI 0) dX6_restore_14 (by decide) ?_
    refine px_aload_n dX6_restore_15 rfl ?_
    refine px_get xk_X6 7 dX6_restore_16 (Or.inl fl_X6_23) MH_obj (by decide) rfl ?_
    refine px_iconst (v := nI 0) dX6_restore_19 (by decide) ?_
    refine px_sipush (v := nI 216) dX6_restore_20 (by decide) ?_
    refine px_sv (c_X6_bring 3 0 0 0 216 (by decide) (by decide) (by decide) (by decide) (Or.inl (by decide))) mw_X6_bring wt_X6_bring (Or.inl ml_X6_108) dX6_restore_23 (by decide) rfl rfl (Nat.le_of_ble_eq_true rfl) ⟨rfl, rfl⟩ ?_
    refine px_iconst (v := nI 1) dX6_restore_26 (by decide) ?_
    exact px_iret dX6_restore_27 rfl rfl rfl ⟨rfl, brc D 3 0 0 0 216, ⟨(hR.2.1.2 hk).cong (fun q hq => by show va_up D.1 0 (va_cpy (D.1 3) (D.1 0) 0 0 216) 0 q = D.1 3 q; rw [va_up_self]; exact cpy_in hq), hR.2⟩, rfl⟩
  · rw [hR.2.1.1, hk] at c4
    cases c4
