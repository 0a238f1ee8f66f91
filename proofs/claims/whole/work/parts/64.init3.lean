/-! ===== the reference's constructor ===== -/
def D00 : xMd := (fun _ _ => 0, fun _ => nI 0, fun _ => nI 0, fun _ => 0, fun _ => 0, fun _ => 0, 0, 0, nI 0, false)
def lfn (i : Nat) : Nat → Int32 := fun q => if q < i then -1 else nI 0
theorem lfn_s (i : Nat) : va_up (lfn i) i (-1) = lfn (i + 1) := by
  funext q
  by_cases hq : q = i
  · subst hq
    rw [va_up_self]
    unfold lfn
    rw [if_pos (by omega)]
  · rw [va_up_ne _ _ hq]
    unfold lfn
    by_cases h1 : q < i
    · rw [if_pos h1, if_pos (by omega)]
    · rw [if_neg h1, if_neg (by omega)]
theorem lfn_0 : lfn 0 = fun _ => nI 0 := by
  funext q
  unfold lfn
  rw [if_neg (by omega)]
theorem mdC_some (E : xE) (w : Nat) (D : xMd) (o : Nat) : (mdC E w D o).isSome = true := by
  unfold mdC
  split
  · rfl
  · split
    · rfl
    · split
      · rfl
      · split
        · rfl
        · split
          · rfl
          · split
            · rfl
            · rfl
theorem xSz_MH {E : xE} {h : xHp} {w n : Nat} {D D2 : xMd} (hs : xSz E (MH E h w D) n) : xSz E (MH E h w D2) n := by
  refine xSz_cong hs (fun a _ => ?_)
  unfold MH putB
  by_cases h1 : w ≤ a ∧ a < w + 10
  · rw [if_pos h1, if_pos h1, mdC_some, mdC_some]
  · rw [if_neg h1, if_neg h1]
def g00 : Nat → Nat := va_up (va_up (fun _ => 0) 1 1) 22 10
theorem g00_z {q : Nat} (h1 : q ≠ 1) (h2 : q ≠ 22) : g00 q = 0 := by
  unfold g00
  rw [va_up_ne _ _ h2, va_up_ne _ _ h1]
theorem T0_ok : tOK T0 := by
  refine ⟨⟨?_, ?_, ?_, ?_, ?_, ?_, ?_⟩, fun _ => Nat.zero_le _, fun _ => Nat.zero_le _, fun _ => Nat.zero_le _, fun _ => Nat.zero_le _, fun _ => Nat.zero_le _, fun _ => Nat.zero_le _⟩
  · show 0 ≤ 6; decide
  · show 0 ≤ 4; decide
  · show 0 < 64; decide
  · show 0 < 64; decide
  · show 0 < 2 ^ 30; decide
  · show 10 ≤ 99; decide
  · show 1 < 2 ^ 31; decide
theorem rep_00 : Rep g00 T0 := by
  refine ⟨⟨g00_z (by decide) (by decide), ?_, g00_z (by decide) (by decide), g00_z (by decide) (by decide), ?_, g00_z (by decide) (by decide), g00_z (by decide) (by decide)⟩, fun a ha => absurd ha (Nat.not_lt_zero a), fun t ht => absurd ht (Nat.not_lt_zero t)⟩
  · unfold g00
    rw [va_up_ne _ _ (by decide), va_up_self]; rfl
  · unfold g00
    rw [va_up_self]; rfl
theorem rel_00 : Rel O00 (sB (sLa D00 (lfn 4)) 0 g00) := by
  refine ⟨?_, ⟨rfl, fun z => by cases z⟩, fun s hs => ?_, ?_, T0_ok, T0_ok⟩
  · show RN (va_up D00.1 0 g00 0) T0 P00
    rw [va_up_self]
    exact RN.none (P := P00) rep_00 T0_ok (by show 0 ≤ 9999; decide) (g00_z (by decide) (by decide)) (by show 0 < 8; decide)
  · refine ⟨?_, Or.inl rfl, Nat.zero_le _, Nat.zero_le _, fun i hi => rfl⟩
    show lfn 4 s = -1
    unfold lfn
    rw [if_pos hs]
  · exact ⟨rfl, Nat.zero_le _, fun _ => Nat.zero_le _, fun i hi => absurd hi (Nat.not_lt_zero i)⟩
set_option maxHeartbeats 4000000 in
set_option maxRecDepth 100000 in
theorem l_X6_init {E : xE} {h : xHp} {b : Nat} : ∀ (n i : Nat), i + n = 4 → xSz E (MH E h b (sLa D00 (lfn i))) (b + 10) → PW E mX6_init (fun v h' => v = none ∧ ∃ D', Rel O00 D' ∧ h' = MH E h b D' ∧ xSz E h' (b + 10)) 9 1052 79 [some (.ref b), some (.int (nI i))] [] (MH E h b (sLa D00 (lfn i))) := by
  intro n
  induction n with
  | zero =>
    intro i h1 hs
    have hi : i = 4 := by omega
    subst hi
    refine px_iload_n dX6_init_79 rfl ?_
    refine px_iconst (v := nI 4) dX6_init_80 (by decide) ?_
    refine px_icmp_geN 97 dX6_init_81 (by decide) (by decide) (by decide) (fun _ => ?_) (fun z => absurd z (by decide))
    refine px_aload_n dX6_init_97 rfl ?_
    refine px_get xk_X6 7 dX6_init_98 (Or.inl fl_X6_23) MH_obj (by decide) rfl ?_
    refine px_iconst (v := nI 1) dX6_init_101 (by decide) ?_
    refine px_iconst (v := nI 1) dX6_init_102 (by decide) ?_
    refine px_bW (b := 0) dX6_init_103 (by decide) (by decide) ?_
    refine px_aload_n dX6_init_104 rfl ?_
    refine px_get xk_X6 7 dX6_init_105 (Or.inl fl_X6_23) MH_obj (by decide) rfl ?_
    refine px_bipush (v := nI 22) dX6_init_108 (by decide) ?_
    refine px_bipush (v := nI 10) dX6_init_110 (by decide) ?_
    refine px_bWs (b := 0) dX6_init_112 (by decide) (by decide) ?_
    exact px_vret dX6_init_113 rfl rfl rfl ⟨rfl, sB (sLa D00 (lfn 4)) 0 g00, rel_00, rfl, xSz_MH hs⟩
  | succ n ih =>
    intro i h1 hs
    have hi : i < 4 := by omega
    refine px_iload_n dX6_init_79 rfl ?_
    refine px_iconst (v := nI 4) dX6_init_80 (by decide) ?_
    refine px_icmp_geN 97 dX6_init_81 (by decide) (by omega) (by decide) (fun z => by omega) (fun _ => ?_)
    refine px_aload_n dX6_init_84 rfl ?_
    refine px_get xk_X6 0 dX6_init_85 (Or.inl fl_X6_7) MH_obj (by decide) rfl ?_
    refine px_iload_n dX6_init_88 rfl ?_
    refine px_iconst (v := -1) dX6_init_89 (by decide) ?_
    refine px_laW dX6_init_90 hi (px_heap (h2 := MH E h b (sLa D00 (lfn (i + 1)))) (by show MH E h b (sLa D00 (va_up (lfn i) i (-1))) = _; rw [lfn_s]) ?_)
    refine px_inc_1 dX6_init_91 rfl (nI_1 _) (by decide) rfl ?_
    refine px_goto 79 dX6_init_94 (by decide) ?_
    exact ih (i + 1) (by omega) (xSz_MH hs)
set_option maxHeartbeats 4000000 in
set_option maxRecDepth 100000 in
theorem c_X6_init {E : xE} {h : xHp} {b : Nat} (hs0 : xSz E (putB h b 1 (fun _ => some (.inr (6, dfX6)))) (b + 1)) : PMet E mX6_init [.ref b] (putB h b 1 (fun _ => some (.inr (6, dfX6)))) (fun v h' => v = none ∧ ∃ D', Rel O00 D' ∧ h' = MH E h b D' ∧ xSz E h' (b + 10)) := by
  refine pm_of [some (.ref b), none] (by decide +kernel) (Nat.le_of_ble_eq_true rfl) rfl ?_
  refine px_aload_n dX6_init_0 rfl ?_
  refine px_objInit dX6_init_1 ml_X6_1 wm_objectInit wc_objectInit (Nat.le_of_ble_eq_true rfl) (Nat.le_of_ble_eq_true rfl) ?_
  refine px_aload_n dX6_init_4 rfl ?_
  refine px_iconst (v := nI 4) dX6_init_5 (by decide) ?_
  refine px_newI dX6_init_6 (by decide) hs0 ⟨Nat.le_of_ble_eq_true rfl, Nat.le_of_ble_eq_true rfl⟩ (fun hs1 => ?_)
  refine px_pF0 xk_X6 0 dX6_init_8 fl_X6_7 rfl (by decide) (by decide) (by show 0 < 13; decide) rfl rfl rfl rfl rfl hs1 (fun hs2 => ?_)
  refine px_aload_n dX6_init_11 rfl ?_
  refine px_iconst (v := nI 4) dX6_init_12 (by decide) ?_
  refine px_newI dX6_init_13 (by decide) hs2 ⟨Nat.le_of_ble_eq_true rfl, Nat.le_of_ble_eq_true rfl⟩ (fun hs3 => ?_)
  refine px_pF0 xk_X6 1 dX6_init_15 fl_X6_13 rfl (by decide) (by decide) (by show 1 < 13; decide) rfl rfl rfl rfl rfl hs3 (fun hs4 => ?_)
  refine px_aload_n dX6_init_18 rfl ?_
  refine px_bipush (v := nI 96) dX6_init_19 (by decide) ?_
  refine px_newL dX6_init_21 (by decide) hs4 ⟨Nat.le_of_ble_eq_true rfl, Nat.le_of_ble_eq_true rfl⟩ (fun hs5 => ?_)
  refine px_pF0 xk_X6 2 dX6_init_23 fl_X6_16 rfl (by decide) (by decide) (by show 2 < 13; decide) rfl rfl rfl rfl rfl hs5 (fun hs6 => ?_)
  refine px_aload_n dX6_init_26 rfl ?_
  refine px_bipush (v := nI 80) dX6_init_27 (by decide) ?_
  refine px_newI dX6_init_29 (by decide) hs6 ⟨Nat.le_of_ble_eq_true rfl, Nat.le_of_ble_eq_true rfl⟩ (fun hs7 => ?_)
  refine px_pF0 xk_X6 4 dX6_init_31 fl_X6_20 rfl (by decide) (by decide) (by show 4 < 13; decide) rfl rfl rfl rfl rfl hs7 (fun hs8 => ?_)
  refine px_aload_n dX6_init_34 rfl ?_
  refine px_sipush (v := nI 216) dX6_init_35 (by decide) ?_
  refine px_newI dX6_init_38 (by decide) hs8 ⟨Nat.le_of_ble_eq_true rfl, Nat.le_of_ble_eq_true rfl⟩ (fun hs9 => ?_)
  refine px_pF0 xk_X6 7 dX6_init_40 fl_X6_23 rfl (by decide) (by decide) (by show 7 < 13; decide) rfl rfl rfl rfl rfl hs9 (fun hs10 => ?_)
  refine px_aload_n dX6_init_43 rfl ?_
  refine px_sipush (v := nI 216) dX6_init_44 (by decide) ?_
  refine px_newI dX6_init_47 (by decide) hs10 ⟨Nat.le_of_ble_eq_true rfl, Nat.le_of_ble_eq_true rfl⟩ (fun hs11 => ?_)
  refine px_pF0 xk_X6 8 dX6_init_49 fl_X6_26 rfl (by decide) (by decide) (by show 8 < 13; decide) rfl rfl rfl rfl rfl hs11 (fun hs12 => ?_)
  refine px_aload_n dX6_init_52 rfl ?_
  refine px_sipush (v := nI 216) dX6_init_53 (by decide) ?_
  refine px_newI dX6_init_56 (by decide) hs12 ⟨Nat.le_of_ble_eq_true rfl, Nat.le_of_ble_eq_true rfl⟩ (fun hs13 => ?_)
  refine px_pF0 xk_X6 9 dX6_init_58 fl_X6_29 rfl (by decide) (by decide) (by show 9 < 13; decide) rfl rfl rfl rfl rfl hs13 (fun hs14 => ?_)
  refine px_aload_n dX6_init_61 rfl ?_
  refine px_sipush (v := nI 216) dX6_init_62 (by decide) ?_
  refine px_newI dX6_init_65 (by decide) hs14 ⟨Nat.le_of_ble_eq_true rfl, Nat.le_of_ble_eq_true rfl⟩ (fun hs15 => ?_)
  refine px_pF0 xk_X6 10 dX6_init_67 fl_X6_32 rfl (by decide) (by decide) (by show 10 < 13; decide) rfl rfl rfl rfl rfl hs15 (fun hs16 => ?_)
  refine px_aload_n dX6_init_70 rfl ?_
  refine px_iconst (v := nI 4) dX6_init_71 (by decide) ?_
  refine px_newI dX6_init_72 (by decide) hs16 ⟨Nat.le_of_ble_eq_true rfl, Nat.le_of_ble_eq_true rfl⟩ (fun hs17 => ?_)
  refine px_pF0 xk_X6 12 dX6_init_74 fl_X6_35 rfl (by decide) (by decide) (by show 12 < 13; decide) rfl rfl rfl rfl rfl hs17 (fun hs18 => ?_)
  refine px_heap (h2 := MH E h b (sLa D00 (lfn 0))) (by rw [lfn_0]; exact putB_congr (fun o ho => match o, ho with | 0, _ => rfl | 1, _ => rfl | 2, _ => rfl | 3, _ => rfl | 4, _ => rfl | 5, _ => rfl | 6, _ => rfl | 7, _ => rfl | 8, _ => rfl | 9, _ => rfl)) ?_
  refine px_iconst (v := nI 0) dX6_init_77 (by decide) ?_
  refine px_istn_1 dX6_init_78 (by decide) rfl ?_
  refine px_kn (k2 := 9) (n2 := 1052) rfl rfl ?_
  exact l_X6_init 4 0 rfl (by rw [lfn_0]; exact xSz_B hs18 rfl (fun o ho => match o, ho with | 0, _ => rfl | 1, _ => rfl | 2, _ => rfl | 3, _ => rfl | 4, _ => rfl | 5, _ => rfl | 6, _ => rfl | 7, _ => rfl | 8, _ => rfl | 9, _ => rfl))
