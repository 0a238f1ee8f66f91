def kfin (L : Nat → Nat) (sz : Nat) (T : xT) (kd s cf d p : Nat) : Option xT × Nat := (some (tshow (tSA (taddA T kd s cf) 2 (T.2 0) d) (T.2 0) (!ktk L sz 120 p)), ktp L sz 120 p)
def kin (L : Nat → Nat) (sz p : Nat) : Option Nat := match kat L sz p with
  | none => none
  | some c => ffrom (pfq c) 5 0
def kapp (L : Nat → Nat) (sz : Nat) (T : xT) (p : Nat) : Option xT × Nat := match kin L sz p with
  | none => (none, kskip L sz p)
  | some kd => match kdg L sz 3 (kskip L sz p + 1) with
    | none => (none, kdp L sz 3 (kskip L sz p + 1))
    | some s => match kdg L sz 9 (kdp L sz 3 (kskip L sz p + 1)) with
      | none => (none, kdp L sz 9 (kdp L sz 3 (kskip L sz p + 1)))
      | some cf => if ktk L sz 61 (kdp L sz 9 (kdp L sz 3 (kskip L sz p + 1))) then match knm L sz (ktp L sz 61 (kdp L sz 9 (kdp L sz 3 (kskip L sz p + 1)))) with
          | none => (none, knp L sz (ktp L sz 61 (kdp L sz 9 (kdp L sz 3 (kskip L sz p + 1)))))
          | some d => kfin L sz T kd s cf d (knp L sz (ktp L sz 61 (kdp L sz 9 (kdp L sz 3 (kskip L sz p + 1)))))
        else kfin L sz T kd s cf 0 (ktp L sz 61 (kdp L sz 9 (kdp L sz 3 (kskip L sz p + 1))))
set_option maxHeartbeats 4000000 in
set_option maxRecDepth 100000 in
theorem c_X3_readApprentice {E : xE} {h : xHp} {bk bw : Nat} {L : Nat → Nat} {sz p : Nat} {T : xT} (hdk : bw + 7 ≤ bk ∨ bk + 2 ≤ bw) (hz : sz ≤ 80) (hL : ∀ i, L i ≤ 126) (hp : p ≤ sz) (hOK : tOK T) (ha : T.2 0 < 6) : PMI E mX3_readApprentice [.ref bk, .ref bw] (KH E (TH E h bw T) bk (L, sz, p)) (bI (kapp L sz T p).1.isSome) (KH E (TH E h bw ((kapp L sz T p).1.getD T)) bk (L, sz, (kapp L sz T p).2)) := by
  refine pm_of [some (.ref bk), some (.ref bw), none, none, none, none, none, none] (by decide +kernel) (Nat.le_of_ble_eq_true rfl) rfl ?_
  refine px_aload_n dX3_readApprentice_0 rfl ?_
  refine px_vi (M2 := mX3_peek) (c_peek hz hL hp) mw_X3_peek wm_X3_peek we_X3_peek (Or.inl ml_X3_45) dX3_readApprentice_1 (KH_obj) rfl (by decide) rfl rfl (Nat.le_of_ble_eq_true rfl) ⟨rfl, rfl⟩ ?_
  rcases hv : kat L sz p with _ | cc
  · have hsk := kskip_b (L := L) hp
    refine px_topi (show eI none = -1 from rfl) ?_
    refine px_istn_2 dX3_readApprentice_4 (by decide) rfl ?_
    refine px_iload_n dX3_readApprentice_5 rfl ?_
    refine px_iconst (v := -1) dX3_readApprentice_6 (by decide) ?_
    refine px_icmp_ne 14 dX3_readApprentice_7 (by decide) (fun z => absurd z (by decide)) (fun _ => ?_)
    refine px_iconst (v := -1) dX3_readApprentice_10 (by decide) ?_
    refine px_goto 21 dX3_readApprentice_11 (by decide) ?_
    refine px_istn_3 dX3_readApprentice_21 (by decide) rfl ?_
    refine px_iload_n dX3_readApprentice_22 rfl ?_
    refine px_if_ge 28 dX3_readApprentice_23 (by decide) (fun z => absurd z (by decide)) (fun _ => ?_)
    refine px_iconst (v := nI 0) dX3_readApprentice_26 (by decide) ?_
    have e0 : kapp L sz T p = (none, kskip L sz p) := by simp only [kapp, kin, hv]
    exact px_bret (b := (kapp L sz T p).1.isSome) dX3_readApprentice_27 rfl rfl rfl (by rw [e0]; rfl) ⟨rfl, by rw [e0]; rfl⟩
  · have hsk := kat_lt hv
    have hcc : cc ≤ 126 := by rw [hsk.2]; exact hL _
    refine px_topi (show eI (some cc) = nI cc from rfl) ?_
    refine px_istn_2 dX3_readApprentice_4 (by decide) rfl ?_
    refine px_iload_n dX3_readApprentice_5 rfl ?_
    refine px_iconst (v := -1) dX3_readApprentice_6 (by decide) ?_
    refine px_icmp_ne 14 dX3_readApprentice_7 (by decide) (fun _ => ?_) (fun z => absurd z.symm (nI_nem1 (by omega)))
    refine px_ldcS dX3_readApprentice_14 rfl ?_
    refine px_iload_n dX3_readApprentice_16 rfl ?_
    refine px_i2c dX3_readApprentice_17 ?_
    refine px_topi (nI_chr (by omega)).1 ?_
    refine px_strI (M2 := mJ0_indexOf_0f7a4) (c_J0_indexOf_0f7a4 cc hcc) mw_J0_indexOf_0f7a4 wm_J0_indexOf_0f7a4 we_J0_indexOf_0f7a4 (Or.inl ml_X3_53) dX3_readApprentice_18 rfl (by decide) rfl rfl (Nat.le_of_ble_eq_true rfl) ⟨rfl, rfl⟩ ?_
    rcases hv1 : ffrom (pfq cc) 5 0 with _ | kd
    · refine px_topi (show eI none = -1 from rfl) ?_
      refine px_istn_3 dX3_readApprentice_21 (by decide) rfl ?_
      refine px_iload_n dX3_readApprentice_22 rfl ?_
      refine px_if_ge 28 dX3_readApprentice_23 (by decide) (fun z => absurd z (by decide)) (fun _ => ?_)
      refine px_iconst (v := nI 0) dX3_readApprentice_26 (by decide) ?_
      have e0 : kapp L sz T p = (none, kskip L sz p) := by simp only [kapp, kin, hv, hv1]
      exact px_bret (b := (kapp L sz T p).1.isSome) dX3_readApprentice_27 rfl rfl rfl (by rw [e0]; rfl) ⟨rfl, by rw [e0]; rfl⟩
    · have hkd := ffrom_lt hv1
      have hp1 : (kskip L sz p + 1) ≤ sz := by omega
      refine px_topi (show eI (some kd) = nI kd from rfl) ?_
      refine px_istn_3 dX3_readApprentice_21 (by decide) rfl ?_
      refine px_iload_n dX3_readApprentice_22 rfl ?_
      refine px_if_geN 28 dX3_readApprentice_23 (by decide) (by first | omega | exact hOK.lts (by decide)) ?_
      refine px_aload_n dX3_readApprentice_28 rfl ?_
      refine px_dup dX3_readApprentice_29 rfl ?_
      refine px_kP dX3_readApprentice_30 (Or.inl fl_X3_19) ?_
      dsimp only
      refine px_iconst (v := nI 1) dX3_readApprentice_33 (by decide) ?_
      refine px_iaddN dX3_readApprentice_34 ?_
      refine px_kPP dX3_readApprentice_35 (Or.inl fl_X3_19) ?_
      refine px_aload_n dX3_readApprentice_38 rfl ?_
      refine px_iconst (v := nI 3) dX3_readApprentice_39 (by decide) ?_
      refine px_vi (M2 := mX3_readDigit) (c_X3_readDigit hz hL hp1 3 (by decide)) mw_X3_readDigit wm_X3_readDigit we_X3_readDigit (Or.inl ml_X3_59) dX3_readApprentice_40 (KH_obj) rfl (by decide) rfl rfl (Nat.le_of_ble_eq_true rfl) ⟨rfl, rfl⟩ ?_
      rcases hv2 : kdg L sz 3 (kskip L sz p + 1) with _ | s
      · refine px_topi (show eI none = -1 from rfl) ?_
        refine px_ist_4 dX3_readApprentice_43 (by decide) rfl ?_
        refine px_iload dX3_readApprentice_45 rfl ?_
        refine px_if_ge 54 dX3_readApprentice_47 (by decide) (fun z => absurd z (by decide)) (fun _ => ?_)
        refine px_iconst (v := -1) dX3_readApprentice_50 (by decide) ?_
        refine px_goto 60 dX3_readApprentice_51 (by decide) ?_
        refine px_ist_5 dX3_readApprentice_60 (by decide) rfl ?_
        refine px_iload dX3_readApprentice_62 rfl ?_
        refine px_if_ge 69 dX3_readApprentice_64 (by decide) (fun z => absurd z (by decide)) (fun _ => ?_)
        refine px_iconst (v := nI 0) dX3_readApprentice_67 (by decide) ?_
        have e0 : kapp L sz T p = (none, (kdp L sz 3 (kskip L sz p + 1))) := by simp only [kapp, kin, hv, hv1, hv2]
        exact px_bret (b := (kapp L sz T p).1.isSome) dX3_readApprentice_68 rfl rfl rfl (by rw [e0]; rfl) ⟨rfl, by rw [e0]; rfl⟩
      · have hs3 := kdg_b hv2
        have hp2 : (kdp L sz 3 (kskip L sz p + 1)) ≤ sz := kdp_b hp1
        refine px_topi (show eI (some s) = nI s from rfl) ?_
        refine px_ist_4 dX3_readApprentice_43 (by decide) rfl ?_
        refine px_iload dX3_readApprentice_45 rfl ?_
        refine px_if_geN 54 dX3_readApprentice_47 (by decide) (by first | omega | exact hOK.lts (by decide)) ?_
        refine px_aload_n dX3_readApprentice_54 rfl ?_
        refine px_bipush (v := nI 9) dX3_readApprentice_55 (by decide) ?_
        refine px_vi (M2 := mX3_readDigit) (c_X3_readDigit hz hL hp2 9 (by decide)) mw_X3_readDigit wm_X3_readDigit we_X3_readDigit (Or.inl ml_X3_59) dX3_readApprentice_57 (KH_obj) rfl (by decide) rfl rfl (Nat.le_of_ble_eq_true rfl) ⟨rfl, rfl⟩ ?_
        rcases hv3 : kdg L sz 9 (kdp L sz 3 (kskip L sz p + 1)) with _ | cf
        · refine px_topi (show eI none = -1 from rfl) ?_
          refine px_ist_5 dX3_readApprentice_60 (by decide) rfl ?_
          refine px_iload dX3_readApprentice_62 rfl ?_
          refine px_if_ge 69 dX3_readApprentice_64 (by decide) (fun z => absurd z (by decide)) (fun _ => ?_)
          refine px_iconst (v := nI 0) dX3_readApprentice_67 (by decide) ?_
          have e0 : kapp L sz T p = (none, (kdp L sz 9 (kdp L sz 3 (kskip L sz p + 1)))) := by simp only [kapp, kin, hv, hv1, hv2, hv3]
          exact px_bret (b := (kapp L sz T p).1.isSome) dX3_readApprentice_68 rfl rfl rfl (by rw [e0]; rfl) ⟨rfl, by rw [e0]; rfl⟩
        · have hc9 := kdg_b hv3
          have hp3 : (kdp L sz 9 (kdp L sz 3 (kskip L sz p + 1))) ≤ sz := kdp_b hp2
          have hp4 : (ktp L sz 61 (kdp L sz 9 (kdp L sz 3 (kskip L sz p + 1)))) ≤ sz := ktp_b hp3
          refine px_topi (show eI (some cf) = nI cf from rfl) ?_
          refine px_ist_5 dX3_readApprentice_60 (by decide) rfl ?_
          refine px_iload dX3_readApprentice_62 rfl ?_
          refine px_if_geN 69 dX3_readApprentice_64 (by decide) (by first | omega | exact hOK.lts (by decide)) ?_
          refine px_aload_n dX3_readApprentice_69 rfl ?_
          refine px_bipush (v := nI 61) dX3_readApprentice_70 (by decide) ?_
          refine px_vi (M2 := mX3_takes) (c_X3_takes hz hL hp3 61 (by decide)) mw_X3_takes wm_X3_takes we_X3_takes (Or.inl ml_X3_31) dX3_readApprentice_72 (KH_obj) rfl (by decide) rfl rfl (Nat.le_of_ble_eq_true rfl) ⟨rfl, rfl⟩ ?_
          refine px_if_eqB 85 dX3_readApprentice_75 (by decide) (fun c75 => ?_) (fun c75 => ?_)
          · refine px_iconst (v := nI 0) dX3_readApprentice_85 (by decide) ?_
            refine px_ist_6 dX3_readApprentice_86 (by decide) rfl ?_
            refine px_iload dX3_readApprentice_88 rfl ?_
            refine px_if_ge 95 dX3_readApprentice_90 (by decide) (fun _ => ?_) (fun z => absurd z (by decide))
            refine px_aload_n dX3_readApprentice_95 rfl ?_
            refine px_iload_n dX3_readApprentice_96 rfl ?_
            refine px_iload dX3_readApprentice_97 rfl ?_
            refine px_iload dX3_readApprentice_99 rfl ?_
            refine px_heap (h2 := TH E (KH E h bk (L, sz, (ktp L sz 61 (kdp L sz 9 (kdp L sz 3 (kskip L sz p + 1)))))) bw T) (putB_swap (by omega)) ?_
            refine px_vi (M2 := mX4_addApprentice) (c_X4_addApprentice hOK kd s cf ha) mw_X4_addApprentice wm_X4_addApprentice we_X4_addApprentice (Or.inr ⟨_, ml_X3_62⟩) dX3_readApprentice_101 (TH_obj) rfl (by decide) rfl rfl (Nat.le_of_ble_eq_true rfl) ⟨rfl, rfl⟩ ?_
            refine px_ist_7 dX3_readApprentice_104 (by decide) rfl ?_
            refine px_iload dX3_readApprentice_106 rfl ?_
            refine px_if_geN 113 dX3_readApprentice_108 (by decide) (by first | omega | exact hOK.lts (by decide)) ?_
            refine px_aload_n dX3_readApprentice_113 rfl ?_
            refine px_tR 2 dX3_readApprentice_114 (Or.inr ⟨_, fl_X3_66⟩) (by decide) ?_
            refine px_iload dX3_readApprentice_117 rfl ?_
            refine px_iload dX3_readApprentice_119 rfl ?_
            refine px_tW 2 dX3_readApprentice_121 (by decide) (by show _ < 6; omega) ?_
            refine px_aload_n dX3_readApprentice_122 rfl ?_
            refine px_iload dX3_readApprentice_123 rfl ?_
            refine px_aload_n dX3_readApprentice_125 rfl ?_
            refine px_bipush (v := nI 120) dX3_readApprentice_126 (by decide) ?_
            refine px_heap (h2 := KH E (TH E h bw (tSA (taddA T kd s cf) 2 (T.2 0) 0)) bk (L, sz, (ktp L sz 61 (kdp L sz 9 (kdp L sz 3 (kskip L sz p + 1)))))) (putB_swap (by omega)) ?_
            refine px_vi (M2 := mX3_takes) (c_X3_takes hz hL (show (ktp L sz 61 (kdp L sz 9 (kdp L sz 3 (kskip L sz p + 1)))) ≤ sz by omega) 120 (by decide)) mw_X3_takes wm_X3_takes we_X3_takes (Or.inl ml_X3_31) dX3_readApprentice_128 (KH_obj) rfl (by decide) rfl rfl (Nat.le_of_ble_eq_true rfl) ⟨rfl, rfl⟩ ?_
            refine px_if_neB 138 dX3_readApprentice_131 (by decide) (fun c131 => ?_) (fun c131 => ?_)
            · refine px_iconst (v := nI 0) dX3_readApprentice_138 (by decide) ?_
              refine px_heap (h2 := TH E (KH E h bk (L, sz, (ktp L sz 120 (ktp L sz 61 (kdp L sz 9 (kdp L sz 3 (kskip L sz p + 1))))))) bw (tSA (taddA T kd s cf) 2 (T.2 0) 0)) (putB_swap (by omega)) ?_
              refine px_vv (M2 := mX4_setShown) (c_X4_setShown (T.2 0) false ha) mw_X4_setShown wm_X4_setShown we_X4_setShown (Or.inr ⟨_, ml_X3_70⟩) dX3_readApprentice_139 (TH_obj) rfl (by decide) rfl rfl (Nat.le_of_ble_eq_true rfl) ⟨rfl, rfl⟩ ?_
              refine px_iconst (v := nI 1) dX3_readApprentice_142 (by decide) ?_
              have e0 : kapp L sz T p = kfin L sz T kd s cf 0 (ktp L sz 61 (kdp L sz 9 (kdp L sz 3 (kskip L sz p + 1)))) := by simp only [kapp, kin, hv, hv1, hv2, hv3, c75, Bool.false_eq_true, if_false]
              refine px_heap (h2 := KH E (TH E h bw (tshow (tSA (taddA T kd s cf) 2 (T.2 0) 0) (T.2 0) (!ktk L sz 120 (ktp L sz 61 (kdp L sz 9 (kdp L sz 3 (kskip L sz p + 1))))))) bk (L, sz, ktp L sz 120 (ktp L sz 61 (kdp L sz 9 (kdp L sz 3 (kskip L sz p + 1)))))) (by rw [c131]; exact putB_swap (by omega)) ?_
              exact px_bret (b := (kapp L sz T p).1.isSome) dX3_readApprentice_143 rfl rfl rfl (by rw [e0]; rfl) ⟨rfl, by rw [e0]; rfl⟩
            · refine px_iconst (v := nI 1) dX3_readApprentice_134 (by decide) ?_
              refine px_goto 139 dX3_readApprentice_135 (by decide) ?_
              refine px_heap (h2 := TH E (KH E h bk (L, sz, (ktp L sz 120 (ktp L sz 61 (kdp L sz 9 (kdp L sz 3 (kskip L sz p + 1))))))) bw (tSA (taddA T kd s cf) 2 (T.2 0) 0)) (putB_swap (by omega)) ?_
              refine px_vv (M2 := mX4_setShown) (c_X4_setShown (T.2 0) true ha) mw_X4_setShown wm_X4_setShown we_X4_setShown (Or.inr ⟨_, ml_X3_70⟩) dX3_readApprentice_139 (TH_obj) rfl (by decide) rfl rfl (Nat.le_of_ble_eq_true rfl) ⟨rfl, rfl⟩ ?_
              refine px_iconst (v := nI 1) dX3_readApprentice_142 (by decide) ?_
              have e0 : kapp L sz T p = kfin L sz T kd s cf 0 (ktp L sz 61 (kdp L sz 9 (kdp L sz 3 (kskip L sz p + 1)))) := by simp only [kapp, kin, hv, hv1, hv2, hv3, c75, Bool.false_eq_true, if_false]
              refine px_heap (h2 := KH E (TH E h bw (tshow (tSA (taddA T kd s cf) 2 (T.2 0) 0) (T.2 0) (!ktk L sz 120 (ktp L sz 61 (kdp L sz 9 (kdp L sz 3 (kskip L sz p + 1))))))) bk (L, sz, ktp L sz 120 (ktp L sz 61 (kdp L sz 9 (kdp L sz 3 (kskip L sz p + 1)))))) (by rw [c131]; exact putB_swap (by omega)) ?_
              exact px_bret (b := (kapp L sz T p).1.isSome) dX3_readApprentice_143 rfl rfl rfl (by rw [e0]; rfl) ⟨rfl, by rw [e0]; rfl⟩
          · refine px_aload_n dX3_readApprentice_78 rfl ?_
            refine px_vi (M2 := mX3_readNumber) (c_X3_readNumber hz hL hp4) mw_X3_readNumber wm_X3_readNumber we_X3_readNumber (Or.inl ml_X3_27) dX3_readApprentice_79 (KH_obj) rfl (by decide) rfl rfl (Nat.le_of_ble_eq_true rfl) ⟨rfl, rfl⟩ ?_
            refine px_goto 86 dX3_readApprentice_82 (by decide) ?_
            rcases hv4 : knm L sz (ktp L sz 61 (kdp L sz 9 (kdp L sz 3 (kskip L sz p + 1)))) with _ | d
            · refine px_topi (show eI none = -1 from rfl) ?_
              refine px_ist_6 dX3_readApprentice_86 (by decide) rfl ?_
              refine px_iload dX3_readApprentice_88 rfl ?_
              refine px_if_ge 95 dX3_readApprentice_90 (by decide) (fun z => absurd z (by decide)) (fun _ => ?_)
              refine px_iconst (v := nI 0) dX3_readApprentice_93 (by decide) ?_
              have e0 : kapp L sz T p = (none, (knp L sz (ktp L sz 61 (kdp L sz 9 (kdp L sz 3 (kskip L sz p + 1)))))) := by simp only [kapp, kin, hv, hv1, hv2, hv3, c75, if_true, hv4]
              exact px_bret (b := (kapp L sz T p).1.isSome) dX3_readApprentice_94 rfl rfl rfl (by rw [e0]; rfl) ⟨rfl, by rw [e0]; rfl⟩
            · have hd99 := knm_b hv4
              have hp5 : (knp L sz (ktp L sz 61 (kdp L sz 9 (kdp L sz 3 (kskip L sz p + 1))))) ≤ sz := knp_b hp4
              refine px_topi (show eI (some d) = nI d from rfl) ?_
              refine px_ist_6 dX3_readApprentice_86 (by decide) rfl ?_
              refine px_iload dX3_readApprentice_88 rfl ?_
              refine px_if_geN 95 dX3_readApprentice_90 (by decide) (by first | omega | exact hOK.lts (by decide)) ?_
              refine px_aload_n dX3_readApprentice_95 rfl ?_
              refine px_iload_n dX3_readApprentice_96 rfl ?_
              refine px_iload dX3_readApprentice_97 rfl ?_
              refine px_iload dX3_readApprentice_99 rfl ?_
              refine px_heap (h2 := TH E (KH E h bk (L, sz, (knp L sz (ktp L sz 61 (kdp L sz 9 (kdp L sz 3 (kskip L sz p + 1))))))) bw T) (putB_swap (by omega)) ?_
              refine px_vi (M2 := mX4_addApprentice) (c_X4_addApprentice hOK kd s cf ha) mw_X4_addApprentice wm_X4_addApprentice we_X4_addApprentice (Or.inr ⟨_, ml_X3_62⟩) dX3_readApprentice_101 (TH_obj) rfl (by decide) rfl rfl (Nat.le_of_ble_eq_true rfl) ⟨rfl, rfl⟩ ?_
              refine px_ist_7 dX3_readApprentice_104 (by decide) rfl ?_
              refine px_iload dX3_readApprentice_106 rfl ?_
              refine px_if_geN 113 dX3_readApprentice_108 (by decide) (by first | omega | exact hOK.lts (by decide)) ?_
              refine px_aload_n dX3_readApprentice_113 rfl ?_
              refine px_tR 2 dX3_readApprentice_114 (Or.inr ⟨_, fl_X3_66⟩) (by decide) ?_
              refine px_iload dX3_readApprentice_117 rfl ?_
              refine px_iload dX3_readApprentice_119 rfl ?_
              refine px_tW 2 dX3_readApprentice_121 (by decide) (by show _ < 6; omega) ?_
              refine px_aload_n dX3_readApprentice_122 rfl ?_
              refine px_iload dX3_readApprentice_123 rfl ?_
              refine px_aload_n dX3_readApprentice_125 rfl ?_
              refine px_bipush (v := nI 120) dX3_readApprentice_126 (by decide) ?_
              refine px_heap (h2 := KH E (TH E h bw (tSA (taddA T kd s cf) 2 (T.2 0) d)) bk (L, sz, (knp L sz (ktp L sz 61 (kdp L sz 9 (kdp L sz 3 (kskip L sz p + 1))))))) (putB_swap (by omega)) ?_
              refine px_vi (M2 := mX3_takes) (c_X3_takes hz hL (show (knp L sz (ktp L sz 61 (kdp L sz 9 (kdp L sz 3 (kskip L sz p + 1))))) ≤ sz by omega) 120 (by decide)) mw_X3_takes wm_X3_takes we_X3_takes (Or.inl ml_X3_31) dX3_readApprentice_128 (KH_obj) rfl (by decide) rfl rfl (Nat.le_of_ble_eq_true rfl) ⟨rfl, rfl⟩ ?_
              refine px_if_neB 138 dX3_readApprentice_131 (by decide) (fun c131 => ?_) (fun c131 => ?_)
              · refine px_iconst (v := nI 0) dX3_readApprentice_138 (by decide) ?_
                refine px_heap (h2 := TH E (KH E h bk (L, sz, (ktp L sz 120 (knp L sz (ktp L sz 61 (kdp L sz 9 (kdp L sz 3 (kskip L sz p + 1)))))))) bw (tSA (taddA T kd s cf) 2 (T.2 0) d)) (putB_swap (by omega)) ?_
                refine px_vv (M2 := mX4_setShown) (c_X4_setShown (T.2 0) false ha) mw_X4_setShown wm_X4_setShown we_X4_setShown (Or.inr ⟨_, ml_X3_70⟩) dX3_readApprentice_139 (TH_obj) rfl (by decide) rfl rfl (Nat.le_of_ble_eq_true rfl) ⟨rfl, rfl⟩ ?_
                refine px_iconst (v := nI 1) dX3_readApprentice_142 (by decide) ?_
                have e0 : kapp L sz T p = kfin L sz T kd s cf d (knp L sz (ktp L sz 61 (kdp L sz 9 (kdp L sz 3 (kskip L sz p + 1))))) := by simp only [kapp, kin, hv, hv1, hv2, hv3, c75, if_true, hv4]
                refine px_heap (h2 := KH E (TH E h bw (tshow (tSA (taddA T kd s cf) 2 (T.2 0) d) (T.2 0) (!ktk L sz 120 (knp L sz (ktp L sz 61 (kdp L sz 9 (kdp L sz 3 (kskip L sz p + 1)))))))) bk (L, sz, ktp L sz 120 (knp L sz (ktp L sz 61 (kdp L sz 9 (kdp L sz 3 (kskip L sz p + 1))))))) (by rw [c131]; exact putB_swap (by omega)) ?_
                exact px_bret (b := (kapp L sz T p).1.isSome) dX3_readApprentice_143 rfl rfl rfl (by rw [e0]; rfl) ⟨rfl, by rw [e0]; rfl⟩
              · refine px_iconst (v := nI 1) dX3_readApprentice_134 (by decide) ?_
                refine px_goto 139 dX3_readApprentice_135 (by decide) ?_
                refine px_heap (h2 := TH E (KH E h bk (L, sz, (ktp L sz 120 (knp L sz (ktp L sz 61 (kdp L sz 9 (kdp L sz 3 (kskip L sz p + 1)))))))) bw (tSA (taddA T kd s cf) 2 (T.2 0) d)) (putB_swap (by omega)) ?_
                refine px_vv (M2 := mX4_setShown) (c_X4_setShown (T.2 0) true ha) mw_X4_setShown wm_X4_setShown we_X4_setShown (Or.inr ⟨_, ml_X3_70⟩) dX3_readApprentice_139 (TH_obj) rfl (by decide) rfl rfl (Nat.le_of_ble_eq_true rfl) ⟨rfl, rfl⟩ ?_
                refine px_iconst (v := nI 1) dX3_readApprentice_142 (by decide) ?_
                have e0 : kapp L sz T p = kfin L sz T kd s cf d (knp L sz (ktp L sz 61 (kdp L sz 9 (kdp L sz 3 (kskip L sz p + 1))))) := by simp only [kapp, kin, hv, hv1, hv2, hv3, c75, if_true, hv4]
                refine px_heap (h2 := KH E (TH E h bw (tshow (tSA (taddA T kd s cf) 2 (T.2 0) d) (T.2 0) (!ktk L sz 120 (knp L sz (ktp L sz 61 (kdp L sz 9 (kdp L sz 3 (kskip L sz p + 1)))))))) bk (L, sz, ktp L sz 120 (knp L sz (ktp L sz 61 (kdp L sz 9 (kdp L sz 3 (kskip L sz p + 1))))))) (by rw [c131]; exact putB_swap (by omega)) ?_
                exact px_bret (b := (kapp L sz T p).1.isSome) dX3_readApprentice_143 rfl rfl rfl (by rw [e0]; rfl) ⟨rfl, by rw [e0]; rfl⟩
