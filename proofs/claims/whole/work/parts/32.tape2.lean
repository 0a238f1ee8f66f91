theorem nI_nem1 {a : Nat} (ha : a < 2 ^ 31) : ¬ (-1 : Int32) = nI a := fun e => nI_nm1 ha (e ▸ Int32.le_refl _)
theorem c_peek {E : xE} {h : xHp} {bk : Nat} {L : Nat → Nat} {sz p : Nat} (hz : sz ≤ 80) (hL : ∀ i, L i ≤ 126) (hp : p ≤ sz) : PMI E mX3_peek [.ref bk] (KH E h bk (L, sz, p)) (eI (kat L sz p)) (KH E h bk (L, sz, kskip L sz p)) := c_X3_peek (K := (L, sz, p)) ⟨hz, hL⟩ hp
set_option maxHeartbeats 4000000 in
set_option maxRecDepth 100000 in
theorem c_X3_takes {E : xE} {h : xHp} {bk : Nat} {L : Nat → Nat} {sz p : Nat} (hz : sz ≤ 80) (hL : ∀ i, L i ≤ 126) (hp : p ≤ sz) (ch : Nat) (hc : ch < 65536) : PMI E mX3_takes [.ref bk, .int (nI ch)] (KH E h bk (L, sz, p)) (bI (ktk L sz ch p)) (KH E h bk (L, sz, ktp L sz ch p)) := by
  refine pm_of [some (.ref bk), some (.int (nI ch)), none] (by decide +kernel) (Nat.le_of_ble_eq_true rfl) rfl ?_
  refine px_aload_n dX3_takes_0 rfl ?_
  refine px_vi (M2 := mX3_peek) (c_peek hz hL hp) mw_X3_peek wm_X3_peek we_X3_peek (Or.inl ml_X3_45) dX3_takes_1 (KH_obj) rfl (by decide) rfl rfl (Nat.le_of_ble_eq_true rfl) ⟨rfl, rfl⟩ ?_
  rcases hv : kat L sz p with _ | cc
  · have hsk := kskip_b (L := L) hp
    refine px_topi (show eI none = -1 from rfl) ?_
    refine px_iload_n dX3_takes_4 rfl ?_
    refine px_icmp_ne 12 dX3_takes_5 (by decide) (fun _ => ?_) (fun z => absurd z (nI_nem1 (by omega)))
    refine px_iconst (v := nI 0) dX3_takes_12 (by decide) ?_
    refine px_istn_2 dX3_takes_13 (by decide) rfl ?_
    refine px_iload_n dX3_takes_14 rfl ?_
    refine px_if_eq 28 dX3_takes_15 (by decide) (fun _ => ?_) (fun z => absurd z (by decide))
    refine px_iload_n dX3_takes_28 rfl ?_
    have e0 : ktk L sz ch p = false := by rw [ktk, hv]; rfl
    exact px_bret (b := ktk L sz ch p) dX3_takes_29 rfl rfl rfl (by rw [e0]; rfl) ⟨rfl, by rw [ktp, e0, if_neg (by decide)]⟩
  · have hsk := kat_lt hv
    have hcc : cc ≤ 126 := by rw [hsk.2]; exact hL _
    refine px_topi (show eI (some cc) = nI cc from rfl) ?_
    refine px_iload_n dX3_takes_4 rfl ?_
    refine px_icmp_neN 12 dX3_takes_5 (by decide) (by omega) (by omega) (fun c5 => ?_) (fun c5 => ?_)
    · refine px_iconst (v := nI 0) dX3_takes_12 (by decide) ?_
      refine px_istn_2 dX3_takes_13 (by decide) rfl ?_
      refine px_iload_n dX3_takes_14 rfl ?_
      refine px_if_eq 28 dX3_takes_15 (by decide) (fun _ => ?_) (fun z => absurd z (by decide))
      refine px_iload_n dX3_takes_28 rfl ?_
      have e0 : ktk L sz ch p = false := by rw [ktk, hv]; exact decide_eq_false (fun q => c5 (Option.some.inj q))
      exact px_bret (b := ktk L sz ch p) dX3_takes_29 rfl rfl rfl (by rw [e0]; rfl) ⟨rfl, by rw [ktp, e0, if_neg (by decide)]⟩
    · refine px_iconst (v := nI 1) dX3_takes_8 (by decide) ?_
      refine px_goto 13 dX3_takes_9 (by decide) ?_
      refine px_istn_2 dX3_takes_13 (by decide) rfl ?_
      refine px_iload_n dX3_takes_14 rfl ?_
      refine px_if_eq 28 dX3_takes_15 (by decide) (fun z => absurd z (by decide)) (fun _ => ?_)
      refine px_aload_n dX3_takes_18 rfl ?_
      refine px_dup dX3_takes_19 rfl ?_
      refine px_kP dX3_takes_20 (Or.inl fl_X3_19) ?_
      dsimp only
      refine px_iconst (v := nI 1) dX3_takes_23 (by decide) ?_
      refine px_iaddN dX3_takes_24 ?_
      refine px_kPP dX3_takes_25 (Or.inl fl_X3_19) ?_
      refine px_iload_n dX3_takes_28 rfl ?_
      have e0 : ktk L sz ch p = true := by rw [ktk, hv, c5]; exact decide_eq_true rfl
      exact px_bret (b := ktk L sz ch p) dX3_takes_29 rfl rfl rfl (by rw [e0]; rfl) ⟨rfl, by rw [ktp, e0, if_pos rfl]⟩
set_option maxHeartbeats 4000000 in
set_option maxRecDepth 100000 in
theorem c_X3_readDigit {E : xE} {h : xHp} {bk : Nat} {L : Nat → Nat} {sz p : Nat} (hz : sz ≤ 80) (hL : ∀ i, L i ≤ 126) (hp : p ≤ sz) (m : Nat) (hm : m ≤ 9) : PMI E mX3_readDigit [.ref bk, .int (nI m)] (KH E h bk (L, sz, p)) (eI (kdg L sz m p)) (KH E h bk (L, sz, kdp L sz m p)) := by
  refine pm_of [some (.ref bk), some (.int (nI m)), none] (by decide +kernel) (Nat.le_of_ble_eq_true rfl) rfl ?_
  refine px_aload_n dX3_readDigit_0 rfl ?_
  refine px_vi (M2 := mX3_peek) (c_peek hz hL hp) mw_X3_peek wm_X3_peek we_X3_peek (Or.inl ml_X3_45) dX3_readDigit_1 (KH_obj) rfl (by decide) rfl rfl (Nat.le_of_ble_eq_true rfl) ⟨rfl, rfl⟩ ?_
  rcases hv : kat L sz p with _ | cc
  · have hsk := kskip_b (L := L) hp
    refine px_topi (show eI none = -1 from rfl) ?_
    refine px_bipush (v := nI 48) dX3_readDigit_4 (by decide) ?_
    refine px_isub dX3_readDigit_6 (px_topi (show (-1 : Int32) - nI 48 = -49 from by decide) ?_)
    refine px_istn_2 dX3_readDigit_7 (by decide) rfl ?_
    refine px_iload_n dX3_readDigit_8 rfl ?_
    refine px_if_lt 17 dX3_readDigit_9 (by decide) (fun _ => ?_) (fun z => absurd z (by decide))
    refine px_iconst (v := -1) dX3_readDigit_17 (by decide) ?_
    have e0 : kdg L sz m p = none := by simp only [kdg, hv]
    exact px_iret dX3_readDigit_18 rfl rfl rfl ⟨by rw [e0]; rfl, by rw [kdp, e0]⟩
  · have hsk := kat_lt hv
    have hcc : cc ≤ 126 := by rw [hsk.2]; exact hL _
    refine px_topi (show eI (some cc) = nI cc from rfl) ?_
    refine px_bipush (v := nI 48) dX3_readDigit_4 (by decide) ?_
    rcases Nat.lt_or_ge cc 48 with hc | hc
    · have hneg : nI cc - nI 48 < 0 := pk_sneg (by decide) hc
      refine px_isub dX3_readDigit_6 ?_
      refine px_istn_2 dX3_readDigit_7 (by decide) rfl ?_
      refine px_iload_n dX3_readDigit_8 rfl ?_
      refine px_if_lt 17 dX3_readDigit_9 (by decide) (fun _ => ?_) (fun z => absurd hneg z)
      refine px_iconst (v := -1) dX3_readDigit_17 (by decide) ?_
      have e0 : kdg L sz m p = none := by simp only [kdg, hv]; rw [if_neg (by omega)]
      exact px_iret dX3_readDigit_18 rfl rfl rfl ⟨by rw [e0]; rfl, by rw [kdp, e0]⟩
    · refine px_isubN dX3_readDigit_6 (by omega) ?_
      refine px_istn_2 dX3_readDigit_7 (by decide) rfl ?_
      refine px_iload_n dX3_readDigit_8 rfl ?_
      refine px_if_ltN 17 dX3_readDigit_9 (by decide) (by omega) ?_
      refine px_iload_n dX3_readDigit_12 rfl ?_
      refine px_iload_n dX3_readDigit_13 rfl ?_
      refine px_icmp_leN 19 dX3_readDigit_14 (by decide) (by omega) (by omega) (fun c14 => ?_) (fun c14 => ?_)
      · refine px_aload_n dX3_readDigit_19 rfl ?_
        refine px_dup dX3_readDigit_20 rfl ?_
        refine px_kP dX3_readDigit_21 (Or.inl fl_X3_19) ?_
        dsimp only
        refine px_iconst (v := nI 1) dX3_readDigit_24 (by decide) ?_
        refine px_iaddN dX3_readDigit_25 ?_
        refine px_kPP dX3_readDigit_26 (Or.inl fl_X3_19) ?_
        refine px_iload_n dX3_readDigit_29 rfl ?_
        have e0 : kdg L sz m p = some (cc - 48) := by simp only [kdg, hv]; rw [if_pos (by omega)]
        exact px_iret dX3_readDigit_30 rfl rfl rfl ⟨by rw [e0]; rfl, by rw [kdp, e0]⟩
      · refine px_iconst (v := -1) dX3_readDigit_17 (by decide) ?_
        have e0 : kdg L sz m p = none := by simp only [kdg, hv]; rw [if_neg (by omega)]
        exact px_iret dX3_readDigit_18 rfl rfl rfl ⟨by rw [e0]; rfl, by rw [kdp, e0]⟩
set_option maxHeartbeats 4000000 in
set_option maxRecDepth 100000 in
theorem c_X3_readNumber {E : xE} {h : xHp} {bk : Nat} {L : Nat → Nat} {sz p : Nat} (hz : sz ≤ 80) (hL : ∀ i, L i ≤ 126) (hp : p ≤ sz) : PMI E mX3_readNumber [.ref bk] (KH E h bk (L, sz, p)) (eI (knm L sz p)) (KH E h bk (L, sz, knp L sz p)) := by
  refine pm_of [some (.ref bk), none, none] (by decide +kernel) (Nat.le_of_ble_eq_true rfl) rfl ?_
  refine px_aload_n dX3_readNumber_0 rfl ?_
  refine px_bipush (v := nI 9) dX3_readNumber_1 (by decide) ?_
  refine px_vi (M2 := mX3_readDigit) (c_X3_readDigit hz hL hp 9 (by decide)) mw_X3_readDigit wm_X3_readDigit we_X3_readDigit (Or.inl ml_X3_59) dX3_readNumber_3 (KH_obj) rfl (by decide) rfl rfl (Nat.le_of_ble_eq_true rfl) ⟨rfl, rfl⟩ ?_
  rcases hv : kdg L sz 9 p with _ | aa
  · refine px_topi (show eI none = -1 from rfl) ?_
    refine px_istn_1 dX3_readNumber_6 (by decide) rfl ?_
    refine px_iload_n dX3_readNumber_7 rfl ?_
    refine px_if_lt 36 dX3_readNumber_8 (by decide) (fun _ => ?_) (fun z => absurd z (by decide))
    refine px_iload_n dX3_readNumber_36 rfl ?_
    exact px_iret dX3_readNumber_37 rfl rfl rfl ⟨by simp only [knm, hv]; rfl, by simp only [knp, hv]⟩
  · have haa := kdg_b hv
    have hp1 := kdp_b (L := L) (m := 9) hp
    refine px_topi (show eI (some aa) = nI aa from rfl) ?_
    refine px_istn_1 dX3_readNumber_6 (by decide) rfl ?_
    refine px_iload_n dX3_readNumber_7 rfl ?_
    refine px_if_ltN 36 dX3_readNumber_8 (by decide) (by omega) ?_
    refine px_aload_n dX3_readNumber_11 rfl ?_
    refine px_kP dX3_readNumber_12 (Or.inl fl_X3_19) ?_
    dsimp only
    refine px_aload_n dX3_readNumber_15 rfl ?_
    refine px_kZ dX3_readNumber_16 (Or.inl fl_X3_15) ?_
    dsimp only
    refine px_icmp_geN 36 dX3_readNumber_19 (by decide) (by omega) (by omega) (fun c19 => ?_) (fun c19 => ?_)
    · refine px_iload_n dX3_readNumber_36 rfl ?_
      exact px_iret dX3_readNumber_37 rfl rfl rfl ⟨by simp only [knm, hv]; rw [if_pos (Or.inl c19)]; rfl, by simp only [knp, hv]; rw [if_pos (Or.inl c19)]⟩
    · refine px_aload_n dX3_readNumber_22 rfl ?_
      refine px_kR dX3_readNumber_23 (Or.inl fl_X3_9) ?_
      refine px_aload_n dX3_readNumber_26 rfl ?_
      refine px_kP dX3_readNumber_27 (Or.inl fl_X3_19) ?_
      dsimp only
      refine px_kL dX3_readNumber_30 (by omega) ?_
      have hl := hL (kdp L sz 9 p)
      dsimp only
      refine px_bipush (v := nI 32) dX3_readNumber_31 (by decide) ?_
      refine px_icmp_neN 38 dX3_readNumber_33 (by decide) (by omega) (by omega) (fun c33 => ?_) (fun c33 => ?_)
      · refine px_aload_n dX3_readNumber_38 rfl ?_
        refine px_bipush (v := nI 9) dX3_readNumber_39 (by decide) ?_
        refine px_vi (M2 := mX3_readDigit) (c_X3_readDigit hz hL hp1 9 (by decide)) mw_X3_readDigit wm_X3_readDigit we_X3_readDigit (Or.inl ml_X3_59) dX3_readNumber_41 (KH_obj) rfl (by decide) rfl rfl (Nat.le_of_ble_eq_true rfl) ⟨rfl, rfl⟩ ?_
        rcases hv2 : kdg L sz 9 (kdp L sz 9 p) with _ | b2
        · refine px_topi (show eI none = -1 from rfl) ?_
          refine px_istn_2 dX3_readNumber_44 (by decide) rfl ?_
          refine px_iload_n dX3_readNumber_45 rfl ?_
          refine px_if_ge 53 dX3_readNumber_46 (by decide) (fun z => absurd z (by decide)) (fun _ => ?_)
          refine px_iload_n dX3_readNumber_49 rfl ?_
          refine px_goto 59 dX3_readNumber_50 (by decide) ?_
          exact px_iret dX3_readNumber_59 rfl rfl rfl ⟨by simp only [knm, hv]; rw [if_neg (show ¬ (sz ≤ kdp L sz 9 p ∨ L (kdp L sz 9 p) = 32) by omega)]; simp only [hv2]; rfl, by simp only [knp, hv]; rw [if_neg (show ¬ (sz ≤ kdp L sz 9 p ∨ L (kdp L sz 9 p) = 32) by omega)]⟩
        · have hb2 := kdg_b hv2
          refine px_topi (show eI (some b2) = nI b2 from rfl) ?_
          refine px_istn_2 dX3_readNumber_44 (by decide) rfl ?_
          refine px_iload_n dX3_readNumber_45 rfl ?_
          refine px_if_geN 53 dX3_readNumber_46 (by decide) (by omega) ?_
          refine px_bipush (v := nI 10) dX3_readNumber_53 (by decide) ?_
          refine px_iload_n dX3_readNumber_55 rfl ?_
          refine px_imulN dX3_readNumber_56 ?_
          refine px_iload_n dX3_readNumber_57 rfl ?_
          refine px_iaddN dX3_readNumber_58 ?_
          exact px_iret dX3_readNumber_59 rfl rfl rfl ⟨by simp only [knm, hv]; rw [if_neg (show ¬ (sz ≤ kdp L sz 9 p ∨ L (kdp L sz 9 p) = 32) by omega)]; simp only [hv2]; rfl, by simp only [knp, hv]; rw [if_neg (show ¬ (sz ≤ kdp L sz 9 p ∨ L (kdp L sz 9 p) = 32) by omega)]⟩
      · refine px_iload_n dX3_readNumber_36 rfl ?_
        exact px_iret dX3_readNumber_37 rfl rfl rfl ⟨by simp only [knm, hv]; rw [if_pos (Or.inr c33)]; rfl, by simp only [knp, hv]; rw [if_pos (Or.inr c33)]⟩
