theorem taddA_s {T : xT} {k s c : Nat} : (taddA T k s c).2 0 = T.2 0 + 1 ∧ (taddA T k s c).2 1 = T.2 1 := by simp [taddA, tSS, tshow, tSA]
theorem taddT_s {T : xT} {k w : Nat} : (taddT T k w).2 0 = T.2 0 ∧ (taddT T k w).2 1 = T.2 1 + 1 := by simp [taddT, tSS, tSA]
theorem kfin_b {L : Nat → Nat} {sz kd s cf d p : Nat} {T T2 : xT} {q : Nat} (h : tOK T) (ha : T.2 0 < 6) (h1 : kd ≤ 4) (h2 : s ≤ 3) (h3 : cf ≤ 9) (h4 : d ≤ 99) (hp : p ≤ sz) (he : kfin L sz T kd s cf d p = (some T2, q)) : tOK T2 ∧ T2.2 0 = T.2 0 + 1 ∧ T2.2 1 = T.2 1 ∧ q ≤ sz := by
  unfold kfin at he
  cases he
  refine ⟨tshow_ok (tSA_ok (taddA_ok h ha h1 h2 h3) (by omega)) ha, ?_, ?_, ktp_b hp⟩
  · simp only [tshow, tSS, tSA]; exact taddA_s.1
  · simp only [tshow, tSS, tSA]; exact taddA_s.2
theorem kapp_y {L : Nat → Nat} {sz p q : Nat} {T T2 : xT} (h : tOK T) (ha : T.2 0 < 6) (hp : p ≤ sz) (he : kapp L sz T p = (some T2, q)) : tOK T2 ∧ T2.2 0 = T.2 0 + 1 ∧ T2.2 1 = T.2 1 ∧ q ≤ sz := by
  unfold kapp at he
  cases h0 : kin L sz p with
  | none => rw [h0] at he; cases he
  | some kd =>
    rw [h0] at he
    dsimp only at he
    have hk : kd < 5 ∧ kskip L sz p < sz := by
      unfold kin at h0
      cases hv : kat L sz p with
      | none => rw [hv] at h0; cases h0
      | some c => rw [hv] at h0; have := ffrom_lt h0; exact ⟨by omega, (kat_lt hv).1⟩
    cases h1 : kdg L sz 3 (kskip L sz p + 1) with
    | none => rw [h1] at he; cases he
    | some s =>
      rw [h1] at he
      dsimp only at he
      have hs := (kdg_b h1).1
      have hp2 : kdp L sz 3 (kskip L sz p + 1) ≤ sz := kdp_b (by omega)
      cases h2 : kdg L sz 9 (kdp L sz 3 (kskip L sz p + 1)) with
      | none => rw [h2] at he; cases he
      | some cf =>
        rw [h2] at he
        dsimp only at he
        have hc := (kdg_b h2).1
        have hp3 : kdp L sz 9 (kdp L sz 3 (kskip L sz p + 1)) ≤ sz := kdp_b hp2
        have hp4 : ktp L sz 61 (kdp L sz 9 (kdp L sz 3 (kskip L sz p + 1))) ≤ sz := ktp_b hp3
        by_cases h3 : ktk L sz 61 (kdp L sz 9 (kdp L sz 3 (kskip L sz p + 1))) = true
        · rw [if_pos h3] at he
          cases h4 : knm L sz (ktp L sz 61 (kdp L sz 9 (kdp L sz 3 (kskip L sz p + 1)))) with
          | none => rw [h4] at he; cases he
          | some d =>
            rw [h4] at he
            dsimp only at he
            exact kfin_b h ha (by omega) hs hc (knm_b h4) (knp_b hp4) he
        · rw [if_neg h3] at he
          exact kfin_b h ha (by omega) hs hc (by omega) hp4 he
def kaps (L : Nat → Nat) (sz : Nat) : Nat → xT → Nat → Bool × xT × Nat
  | 0, T, p => match kapp L sz T p with
    | (none, q) => (false, T, q)
    | (some T2, q) => (true, T2, q)
  | n + 1, T, p => match kapp L sz T p with
    | (none, q) => (false, T, q)
    | (some T2, q) => if ktk L sz 44 q then kaps L sz n T2 (ktp L sz 44 q) else (true, T2, ktp L sz 44 q)
def kthf (L : Nat → Nat) (sz : Nat) : Nat → xT → Nat → Bool × xT × Nat
  | 0, T, p => match kdg L sz 9 p with
    | none => (false, T, kdp L sz 9 p)
    | some sk => match kdg L sz 4 (kdp L sz 9 p) with
      | none => (false, T, kdp L sz 4 (kdp L sz 9 p))
      | some w => (true, taddT T sk w, kdp L sz 4 (kdp L sz 9 p))
  | n + 1, T, p => match kdg L sz 9 p with
    | none => (false, T, kdp L sz 9 p)
    | some sk => match kdg L sz 4 (kdp L sz 9 p) with
      | none => (false, T, kdp L sz 4 (kdp L sz 9 p))
      | some w => if ktk L sz 44 (kdp L sz 4 (kdp L sz 9 p)) then kthf L sz n (taddT T sk w) (ktp L sz 44 (kdp L sz 4 (kdp L sz 9 p))) else (true, taddT T sk w, ktp L sz 44 (kdp L sz 4 (kdp L sz 9 p)))
theorem kaps_ok {L : Nat → Nat} {sz : Nat} : ∀ (n : Nat) (T : xT) (p : Nat), tOK T → T.2 0 + n < 6 → p ≤ sz → tOK (kaps L sz n T p).2.1 ∧ (kaps L sz n T p).2.1.2 1 = T.2 1 ∧ ((kaps L sz n T p).1 = true → (kaps L sz n T p).2.2 ≤ sz)
  | 0, T, p, h, ha, hp => by
    cases hv : kapp L sz T p with
    | mk o q =>
      cases o with
      | none => simp only [kaps, hv]; exact ⟨h, trivial, fun z => by cases z⟩
      | some T2 => simp only [kaps, hv]; have := kapp_y h (by omega) hp hv; exact ⟨this.1, this.2.2.1, fun _ => this.2.2.2⟩
  | n + 1, T, p, h, ha, hp => by
    cases hv : kapp L sz T p with
    | mk o q =>
      cases o with
      | none => simp only [kaps, hv]; exact ⟨h, trivial, fun z => by cases z⟩
      | some T2 =>
        have hk := kapp_y h (by omega) hp hv
        simp only [kaps, hv]
        by_cases hc : ktk L sz 44 q = true
        · rw [if_pos hc]
          have := kaps_ok (L := L) n T2 (ktp L sz 44 q) hk.1 (by omega) (ktp_b hk.2.2.2)
          exact ⟨this.1, this.2.1.trans hk.2.2.1, this.2.2⟩
        · rw [if_neg hc]
          exact ⟨hk.1, hk.2.2.1, fun _ => ktp_b hk.2.2.2⟩
theorem kthf_ok {L : Nat → Nat} {sz : Nat} : ∀ (n : Nat) (T : xT) (p : Nat), tOK T → T.2 1 + n < 4 → p ≤ sz → tOK (kthf L sz n T p).2.1 ∧ ((kthf L sz n T p).1 = true → (kthf L sz n T p).2.2 ≤ sz)
  | 0, T, p, h, ha, hp => by
    cases h1 : kdg L sz 9 p with
    | none => simp only [kthf, h1]; exact ⟨h, fun z => by cases z⟩
    | some sk =>
      cases h2 : kdg L sz 4 (kdp L sz 9 p) with
      | none => simp only [kthf, h1, h2]; exact ⟨h, fun z => by cases z⟩
      | some w => simp only [kthf, h1, h2]; exact ⟨taddT_ok h (by omega) (kdg_b h1).1 (kdg_b h2).1, fun _ => kdp_b (kdp_b hp)⟩
  | n + 1, T, p, h, ha, hp => by
    cases h1 : kdg L sz 9 p with
    | none => simp only [kthf, h1]; exact ⟨h, fun z => by cases z⟩
    | some sk =>
      cases h2 : kdg L sz 4 (kdp L sz 9 p) with
      | none => simp only [kthf, h1, h2]; exact ⟨h, fun z => by cases z⟩
      | some w =>
        have hk := taddT_ok h (by omega) (kdg_b h1).1 (kdg_b h2).1
        have hq : kdp L sz 4 (kdp L sz 9 p) ≤ sz := kdp_b (kdp_b hp)
        simp only [kthf, h1, h2]
        by_cases hc : ktk L sz 44 (kdp L sz 4 (kdp L sz 9 p)) = true
        · rw [if_pos hc]
          exact kthf_ok n _ _ hk (by have := (taddT_s (T := T) (k := sk) (w := w)).2; omega) (ktp_b hq)
        · rw [if_neg hc]
          exact ⟨hk, fun _ => ktp_b hq⟩
set_option maxHeartbeats 4000000 in
set_option maxRecDepth 100000 in
theorem l_X3_readApprentices {E : xE} {h : xHp} {bk bw : Nat} {L : Nat → Nat} {sz : Nat} (hdk : bw + 7 ≤ bk ∨ bk + 2 ≤ bw) (hz : sz ≤ 80) (hL : ∀ i, L i ≤ 126) : ∀ (n i : Nat) (T : xT) (p : Nat), i + n = 5 → T.2 0 = i → tOK T → p ≤ sz → PW E mX3_readApprentices (fun v h1 => v = some (.int (bI (kaps L sz n T p).1)) ∧ h1 = KH E (TH E h bw (kaps L sz n T p).2.1) bk (L, sz, (kaps L sz n T p).2.2)) 0 0 23 [some (.ref bk), some (.ref bw), some (.int (nI i))] [] (KH E (TH E h bw T) bk (L, sz, p)) := by
  intro n
  induction n with
  | zero =>
    intro i T p h1 h2 hOK hp
    refine px_aload_n dX3_readApprentices_23 rfl ?_
    refine px_aload_n dX3_readApprentices_24 rfl ?_
    refine px_vi (M2 := mX3_readApprentice) (c_X3_readApprentice hdk hz hL hp hOK (by omega)) mw_X3_readApprentice wm_X3_readApprentice we_X3_readApprentice (Or.inl ml_X3_48) dX3_readApprentices_25 (KH_obj) rfl (by decide) rfl rfl (Nat.le_of_ble_eq_true rfl) ⟨rfl, rfl⟩ ?_
    rcases hv : kapp L sz T p with ⟨_ | T2, q⟩
    · refine px_if_neB 33 dX3_readApprentices_28 (by decide) (fun c28 => ?_) (fun c28 => ?_)
      · cases c28
      · refine px_iconst (v := nI 0) dX3_readApprentices_31 (by decide) ?_
        simp only [kaps, hv]
        exact px_bret (b := false) dX3_readApprentices_32 rfl rfl rfl rfl ⟨rfl, rfl⟩
    · have hk := kapp_y hOK (by omega) hp hv
      refine px_if_neB 33 dX3_readApprentices_28 (by decide) (fun c28 => ?_) (fun c28 => ?_)
      · refine px_inc_2 dX3_readApprentices_33 rfl (nI_1 _) (by decide) rfl ?_
        refine px_goto 2 dX3_readApprentices_36 (by decide) ?_
        refine px_iload_n dX3_readApprentices_2 rfl ?_
        refine px_bipush (v := nI 6) dX3_readApprentices_3 (by decide) ?_
        refine px_icmp_geN 39 dX3_readApprentices_5 (by decide) (by omega) (by omega) (fun c5 => ?_) (fun c5 => ?_)
        · refine px_iconst (v := nI 1) dX3_readApprentices_39 (by decide) ?_
          simp only [kaps, hv]
          exact px_bret (b := true) dX3_readApprentices_40 rfl rfl rfl rfl ⟨rfl, rfl⟩
        · omega
      · cases c28
  | succ n ih =>
    intro i T p h1 h2 hOK hp
    refine px_aload_n dX3_readApprentices_23 rfl ?_
    refine px_aload_n dX3_readApprentices_24 rfl ?_
    refine px_vi (M2 := mX3_readApprentice) (c_X3_readApprentice hdk hz hL hp hOK (by omega)) mw_X3_readApprentice wm_X3_readApprentice we_X3_readApprentice (Or.inl ml_X3_48) dX3_readApprentices_25 (KH_obj) rfl (by decide) rfl rfl (Nat.le_of_ble_eq_true rfl) ⟨rfl, rfl⟩ ?_
    rcases hv : kapp L sz T p with ⟨_ | T2, q⟩
    · refine px_if_neB 33 dX3_readApprentices_28 (by decide) (fun c28 => ?_) (fun c28 => ?_)
      · cases c28
      · refine px_iconst (v := nI 0) dX3_readApprentices_31 (by decide) ?_
        simp only [kaps, hv]
        exact px_bret (b := false) dX3_readApprentices_32 rfl rfl rfl rfl ⟨rfl, rfl⟩
    · have hk := kapp_y hOK (by omega) hp hv
      refine px_if_neB 33 dX3_readApprentices_28 (by decide) (fun c28 => ?_) (fun c28 => ?_)
      · refine px_inc_2 dX3_readApprentices_33 rfl (nI_1 _) (by decide) rfl ?_
        refine px_goto 2 dX3_readApprentices_36 (by decide) ?_
        refine px_iload_n dX3_readApprentices_2 rfl ?_
        refine px_bipush (v := nI 6) dX3_readApprentices_3 (by decide) ?_
        refine px_icmp_geN 39 dX3_readApprentices_5 (by decide) (by omega) (by omega) (fun c5 => ?_) (fun c5 => ?_)
        · omega
        · refine px_iload_n dX3_readApprentices_8 rfl ?_
          refine px_if_leN 23 dX3_readApprentices_9 (by decide) (by omega) (fun c9 => ?_) (fun c9 => ?_)
          · omega
          · refine px_aload_n dX3_readApprentices_12 rfl ?_
            refine px_bipush (v := nI 44) dX3_readApprentices_13 (by decide) ?_
            refine px_vi (M2 := mX3_takes) (c_X3_takes hz hL hk.2.2.2 44 (by decide)) mw_X3_takes wm_X3_takes we_X3_takes (Or.inl ml_X3_31) dX3_readApprentices_15 (KH_obj) rfl (by decide) rfl rfl (Nat.le_of_ble_eq_true rfl) ⟨rfl, rfl⟩ ?_
            refine px_if_neB 23 dX3_readApprentices_18 (by decide) (fun c18 => ?_) (fun c18 => ?_)
            · simp only [kaps, hv]
              rw [if_pos c18]
              exact ih (i + 1) T2 _ (by omega) (by omega) hk.1 (ktp_b hk.2.2.2)
            · refine px_iconst (v := nI 1) dX3_readApprentices_21 (by decide) ?_
              simp only [kaps, hv]
              rw [if_neg (by simp [c18])]
              exact px_bret (b := true) dX3_readApprentices_22 rfl rfl rfl rfl ⟨rfl, rfl⟩
      · cases c28
set_option maxHeartbeats 4000000 in
set_option maxRecDepth 100000 in
theorem c_X3_readApprentices {E : xE} {h : xHp} {bk bw : Nat} {L : Nat → Nat} {sz : Nat} (hdk : bw + 7 ≤ bk ∨ bk + 2 ≤ bw) (hz : sz ≤ 80) (hL : ∀ i, L i ≤ 126) {p : Nat} {T : xT} (hp : p ≤ sz) (hOK : tOK T) (h0 : T.2 0 = 0) : PMI E mX3_readApprentices [.ref bk, .ref bw] (KH E (TH E h bw T) bk (L, sz, p)) (bI (kaps L sz 5 T p).1) (KH E (TH E h bw (kaps L sz 5 T p).2.1) bk (L, sz, (kaps L sz 5 T p).2.2)) := by
  refine pm_of [some (.ref bk), some (.ref bw), none] (by decide +kernel) (Nat.le_of_ble_eq_true rfl) rfl ?_
  refine px_iconst (v := nI 0) dX3_readApprentices_0 (by decide) ?_
  refine px_istn_2 dX3_readApprentices_1 (by decide) rfl ?_
  refine px_iload_n dX3_readApprentices_2 rfl ?_
  refine px_bipush (v := nI 6) dX3_readApprentices_3 (by decide) ?_
  refine px_icmp_ge 39 dX3_readApprentices_5 (by decide) (fun z => absurd z (by decide)) (fun _ => ?_)
  refine px_iload_n dX3_readApprentices_8 rfl ?_
  refine px_if_le 23 dX3_readApprentices_9 (by decide) (fun _ => ?_) (fun z => absurd z (by decide))
  exact l_X3_readApprentices hdk hz hL 5 0 T p rfl h0 hOK hp
set_option maxHeartbeats 4000000 in
set_option maxRecDepth 100000 in
theorem l_X3_readThieves {E : xE} {h : xHp} {bk bw : Nat} {L : Nat → Nat} {sz : Nat} (hdk : bw + 7 ≤ bk ∨ bk + 2 ≤ bw) (hz : sz ≤ 80) (hL : ∀ i, L i ≤ 126) : ∀ (n i : Nat) (T : xT) (p : Nat), i + n = 3 → T.2 1 = i → tOK T → p ≤ sz → PW E mX3_readThieves (fun v h1 => v = some (.int (bI (kthf L sz n T p).1)) ∧ h1 = KH E (TH E h bw (kthf L sz n T p).2.1) bk (L, sz, (kthf L sz n T p).2.2)) 0 0 22 [some (.ref bk), some (.ref bw), some (.int (nI i)), none, none] [] (KH E (TH E h bw T) bk (L, sz, p)) := by
  intro n
  induction n with
  | zero =>
    intro i T p h1 h2 hOK hp
    refine px_aload_n dX3_readThieves_22 rfl ?_
    refine px_bipush (v := nI 9) dX3_readThieves_23 (by decide) ?_
    refine px_vi (M2 := mX3_readDigit) (c_X3_readDigit hz hL hp 9 (by decide)) mw_X3_readDigit wm_X3_readDigit we_X3_readDigit (Or.inl ml_X3_59) dX3_readThieves_25 (KH_obj) rfl (by decide) rfl rfl (Nat.le_of_ble_eq_true rfl) ⟨rfl, rfl⟩ ?_
    rcases hv : kdg L sz 9 p with _ | sk
    · refine px_topi (show eI none = -1 from rfl) ?_
      refine px_istn_3 dX3_readThieves_28 (by decide) rfl ?_
      refine px_iload_n dX3_readThieves_29 rfl ?_
      refine px_if_ge 37 dX3_readThieves_30 (by decide) (fun z => absurd z (by decide)) (fun _ => ?_)
      refine px_iconst (v := -1) dX3_readThieves_33 (by decide) ?_
      refine px_goto 42 dX3_readThieves_34 (by decide) ?_
      refine px_ist_4 dX3_readThieves_42 (by decide) rfl ?_
      refine px_iload dX3_readThieves_44 rfl ?_
      refine px_if_ge 51 dX3_readThieves_46 (by decide) (fun z => absurd z (by decide)) (fun _ => ?_)
      refine px_iconst (v := nI 0) dX3_readThieves_49 (by decide) ?_
      simp only [kthf, hv]
      exact px_bret (b := false) dX3_readThieves_50 rfl rfl rfl rfl ⟨rfl, rfl⟩
    · have hs9 := kdg_b hv
      have hp2 : (kdp L sz 9 p) ≤ sz := kdp_b hp
      refine px_topi (show eI (some sk) = nI sk from rfl) ?_
      refine px_istn_3 dX3_readThieves_28 (by decide) rfl ?_
      refine px_iload_n dX3_readThieves_29 rfl ?_
      refine px_if_geN 37 dX3_readThieves_30 (by decide) (by omega) ?_
      refine px_aload_n dX3_readThieves_37 rfl ?_
      refine px_iconst (v := nI 4) dX3_readThieves_38 (by decide) ?_
      refine px_vi (M2 := mX3_readDigit) (c_X3_readDigit hz hL hp2 4 (by decide)) mw_X3_readDigit wm_X3_readDigit we_X3_readDigit (Or.inl ml_X3_59) dX3_readThieves_39 (KH_obj) rfl (by decide) rfl rfl (Nat.le_of_ble_eq_true rfl) ⟨rfl, rfl⟩ ?_
      rcases hv2 : kdg L sz 4 (kdp L sz 9 p) with _ | w
      · refine px_topi (show eI none = -1 from rfl) ?_
        refine px_ist_4 dX3_readThieves_42 (by decide) rfl ?_
        refine px_iload dX3_readThieves_44 rfl ?_
        refine px_if_ge 51 dX3_readThieves_46 (by decide) (fun z => absurd z (by decide)) (fun _ => ?_)
        refine px_iconst (v := nI 0) dX3_readThieves_49 (by decide) ?_
        simp only [kthf, hv, hv2]
        exact px_bret (b := false) dX3_readThieves_50 rfl rfl rfl rfl ⟨rfl, rfl⟩
      · have hw4 := kdg_b hv2
        have hp3 : (kdp L sz 4 (kdp L sz 9 p)) ≤ sz := kdp_b hp2
        refine px_topi (show eI (some w) = nI w from rfl) ?_
        refine px_ist_4 dX3_readThieves_42 (by decide) rfl ?_
        refine px_iload dX3_readThieves_44 rfl ?_
        refine px_if_geN 51 dX3_readThieves_46 (by decide) (by omega) ?_
        refine px_aload_n dX3_readThieves_51 rfl ?_
        refine px_iload_n dX3_readThieves_52 rfl ?_
        refine px_iload dX3_readThieves_53 rfl ?_
        refine px_heap (h2 := TH E (KH E h bk (L, sz, (kdp L sz 4 (kdp L sz 9 p)))) bw T) (putB_swap (by omega)) ?_
        refine px_vi (M2 := mX4_addThief) (c_X4_addThief hOK sk w (by omega)) mw_X4_addThief wm_X4_addThief we_X4_addThief (Or.inr ⟨_, ml_X3_74⟩) dX3_readThieves_55 (TH_obj) rfl (by decide) rfl rfl (Nat.le_of_ble_eq_true rfl) ⟨rfl, rfl⟩ ?_
        refine px_heap (h2 := KH E (TH E h bw (taddT T sk w)) bk (L, sz, (kdp L sz 4 (kdp L sz 9 p)))) (putB_swap (by omega)) ?_
        refine px_pop dX3_readThieves_58 rfl ?_
        refine px_inc_2 dX3_readThieves_59 rfl (nI_1 _) (by decide) rfl ?_
        refine px_goto 2 dX3_readThieves_62 (by decide) ?_
        refine px_iload_n dX3_readThieves_2 rfl ?_
        refine px_iconst (v := nI 4) dX3_readThieves_3 (by decide) ?_
        refine px_icmp_geN 65 dX3_readThieves_4 (by decide) (by omega) (by omega) (fun c4 => ?_) (fun c4 => ?_)
        · refine px_iconst (v := nI 1) dX3_readThieves_65 (by decide) ?_
          simp only [kthf, hv, hv2]
          exact px_bret (b := true) dX3_readThieves_66 rfl rfl rfl rfl ⟨rfl, rfl⟩
        · omega
  | succ n ih =>
    intro i T p h1 h2 hOK hp
    refine px_aload_n dX3_readThieves_22 rfl ?_
    refine px_bipush (v := nI 9) dX3_readThieves_23 (by decide) ?_
    refine px_vi (M2 := mX3_readDigit) (c_X3_readDigit hz hL hp 9 (by decide)) mw_X3_readDigit wm_X3_readDigit we_X3_readDigit (Or.inl ml_X3_59) dX3_readThieves_25 (KH_obj) rfl (by decide) rfl rfl (Nat.le_of_ble_eq_true rfl) ⟨rfl, rfl⟩ ?_
    rcases hv : kdg L sz 9 p with _ | sk
    · refine px_topi (show eI none = -1 from rfl) ?_
      refine px_istn_3 dX3_readThieves_28 (by decide) rfl ?_
      refine px_iload_n dX3_readThieves_29 rfl ?_
      refine px_if_ge 37 dX3_readThieves_30 (by decide) (fun z => absurd z (by decide)) (fun _ => ?_)
      refine px_iconst (v := -1) dX3_readThieves_33 (by decide) ?_
      refine px_goto 42 dX3_readThieves_34 (by decide) ?_
      refine px_ist_4 dX3_readThieves_42 (by decide) rfl ?_
      refine px_iload dX3_readThieves_44 rfl ?_
      refine px_if_ge 51 dX3_readThieves_46 (by decide) (fun z => absurd z (by decide)) (fun _ => ?_)
      refine px_iconst (v := nI 0) dX3_readThieves_49 (by decide) ?_
      simp only [kthf, hv]
      exact px_bret (b := false) dX3_readThieves_50 rfl rfl rfl rfl ⟨rfl, rfl⟩
    · have hs9 := kdg_b hv
      have hp2 : (kdp L sz 9 p) ≤ sz := kdp_b hp
      refine px_topi (show eI (some sk) = nI sk from rfl) ?_
      refine px_istn_3 dX3_readThieves_28 (by decide) rfl ?_
      refine px_iload_n dX3_readThieves_29 rfl ?_
      refine px_if_geN 37 dX3_readThieves_30 (by decide) (by omega) ?_
      refine px_aload_n dX3_readThieves_37 rfl ?_
      refine px_iconst (v := nI 4) dX3_readThieves_38 (by decide) ?_
      refine px_vi (M2 := mX3_readDigit) (c_X3_readDigit hz hL hp2 4 (by decide)) mw_X3_readDigit wm_X3_readDigit we_X3_readDigit (Or.inl ml_X3_59) dX3_readThieves_39 (KH_obj) rfl (by decide) rfl rfl (Nat.le_of_ble_eq_true rfl) ⟨rfl, rfl⟩ ?_
      rcases hv2 : kdg L sz 4 (kdp L sz 9 p) with _ | w
      · refine px_topi (show eI none = -1 from rfl) ?_
        refine px_ist_4 dX3_readThieves_42 (by decide) rfl ?_
        refine px_iload dX3_readThieves_44 rfl ?_
        refine px_if_ge 51 dX3_readThieves_46 (by decide) (fun z => absurd z (by decide)) (fun _ => ?_)
        refine px_iconst (v := nI 0) dX3_readThieves_49 (by decide) ?_
        simp only [kthf, hv, hv2]
        exact px_bret (b := false) dX3_readThieves_50 rfl rfl rfl rfl ⟨rfl, rfl⟩
      · have hw4 := kdg_b hv2
        have hp3 : (kdp L sz 4 (kdp L sz 9 p)) ≤ sz := kdp_b hp2
        refine px_topi (show eI (some w) = nI w from rfl) ?_
        refine px_ist_4 dX3_readThieves_42 (by decide) rfl ?_
        refine px_iload dX3_readThieves_44 rfl ?_
        refine px_if_geN 51 dX3_readThieves_46 (by decide) (by omega) ?_
        refine px_aload_n dX3_readThieves_51 rfl ?_
        refine px_iload_n dX3_readThieves_52 rfl ?_
        refine px_iload dX3_readThieves_53 rfl ?_
        refine px_heap (h2 := TH E (KH E h bk (L, sz, (kdp L sz 4 (kdp L sz 9 p)))) bw T) (putB_swap (by omega)) ?_
        refine px_vi (M2 := mX4_addThief) (c_X4_addThief hOK sk w (by omega)) mw_X4_addThief wm_X4_addThief we_X4_addThief (Or.inr ⟨_, ml_X3_74⟩) dX3_readThieves_55 (TH_obj) rfl (by decide) rfl rfl (Nat.le_of_ble_eq_true rfl) ⟨rfl, rfl⟩ ?_
        refine px_heap (h2 := KH E (TH E h bw (taddT T sk w)) bk (L, sz, (kdp L sz 4 (kdp L sz 9 p)))) (putB_swap (by omega)) ?_
        refine px_pop dX3_readThieves_58 rfl ?_
        refine px_inc_2 dX3_readThieves_59 rfl (nI_1 _) (by decide) rfl ?_
        refine px_goto 2 dX3_readThieves_62 (by decide) ?_
        refine px_iload_n dX3_readThieves_2 rfl ?_
        refine px_iconst (v := nI 4) dX3_readThieves_3 (by decide) ?_
        refine px_icmp_geN 65 dX3_readThieves_4 (by decide) (by omega) (by omega) (fun c4 => ?_) (fun c4 => ?_)
        · omega
        · refine px_iload_n dX3_readThieves_7 rfl ?_
          refine px_if_leN 22 dX3_readThieves_8 (by decide) (by omega) (fun c8 => ?_) (fun c8 => ?_)
          · omega
          · refine px_aload_n dX3_readThieves_11 rfl ?_
            refine px_bipush (v := nI 44) dX3_readThieves_12 (by decide) ?_
            refine px_vi (M2 := mX3_takes) (c_X3_takes hz hL hp3 44 (by decide)) mw_X3_takes wm_X3_takes we_X3_takes (Or.inl ml_X3_31) dX3_readThieves_14 (KH_obj) rfl (by decide) rfl rfl (Nat.le_of_ble_eq_true rfl) ⟨rfl, rfl⟩ ?_
            refine px_if_neB 22 dX3_readThieves_17 (by decide) (fun c17 => ?_) (fun c17 => ?_)
            · refine px_fg_3 (px_fg_4 ?_)
              simp only [kthf, hv, hv2]
              rw [if_pos c17]
              exact ih (i + 1) _ _ (by omega) (by rw [taddT_s.2]; omega) (taddT_ok hOK (by omega) hs9.1 hw4.1) (ktp_b hp3)
            · refine px_iconst (v := nI 1) dX3_readThieves_20 (by decide) ?_
              simp only [kthf, hv, hv2]
              rw [if_neg (by simp [c17])]
              exact px_bret (b := true) dX3_readThieves_21 rfl rfl rfl rfl ⟨rfl, rfl⟩
set_option maxHeartbeats 4000000 in
set_option maxRecDepth 100000 in
theorem c_X3_readThieves {E : xE} {h : xHp} {bk bw : Nat} {L : Nat → Nat} {sz : Nat} (hdk : bw + 7 ≤ bk ∨ bk + 2 ≤ bw) (hz : sz ≤ 80) (hL : ∀ i, L i ≤ 126) {p : Nat} {T : xT} (hp : p ≤ sz) (hOK : tOK T) (h0 : T.2 1 = 0) : PMI E mX3_readThieves [.ref bk, .ref bw] (KH E (TH E h bw T) bk (L, sz, p)) (bI (kthf L sz 3 T p).1) (KH E (TH E h bw (kthf L sz 3 T p).2.1) bk (L, sz, (kthf L sz 3 T p).2.2)) := by
  refine pm_of [some (.ref bk), some (.ref bw), none, none, none] (by decide +kernel) (Nat.le_of_ble_eq_true rfl) rfl ?_
  refine px_iconst (v := nI 0) dX3_readThieves_0 (by decide) ?_
  refine px_istn_2 dX3_readThieves_1 (by decide) rfl ?_
  refine px_iload_n dX3_readThieves_2 rfl ?_
  refine px_iconst (v := nI 4) dX3_readThieves_3 (by decide) ?_
  refine px_icmp_ge 65 dX3_readThieves_4 (by decide) (fun z => absurd z (by decide)) (fun _ => ?_)
  refine px_iload_n dX3_readThieves_7 rfl ?_
  refine px_if_le 22 dX3_readThieves_8 (by decide) (fun _ => ?_) (fun z => absurd z (by decide))
  exact l_X3_readThieves hdk hz hL 3 0 T p rfl h0 hOK hp
def kend (L : Nat → Nat) (sz : Nat) (T : xT) (q : Nat) : Bool × xT × Nat := (decide (kat L sz q = none), T, kskip L sz q)
def ktown (L : Nat → Nat) (sz : Nat) (T : xT) : Bool × xT × Nat := match knm L sz 0 with
  | none => (false, tempty T, knp L sz 0)
  | some v => if ktk L sz 59 (knp L sz 0) then
      (if (kaps L sz 5 (tSS (tempty T) 5 v) (ktp L sz 59 (knp L sz 0))).1 then
        (if ktk L sz 59 (kaps L sz 5 (tSS (tempty T) 5 v) (ktp L sz 59 (knp L sz 0))).2.2 then
          (if (kthf L sz 3 (kaps L sz 5 (tSS (tempty T) 5 v) (ktp L sz 59 (knp L sz 0))).2.1 (ktp L sz 59 (kaps L sz 5 (tSS (tempty T) 5 v) (ktp L sz 59 (knp L sz 0))).2.2)).1 then
            kend L sz (kthf L sz 3 (kaps L sz 5 (tSS (tempty T) 5 v) (ktp L sz 59 (knp L sz 0))).2.1 (ktp L sz 59 (kaps L sz 5 (tSS (tempty T) 5 v) (ktp L sz 59 (knp L sz 0))).2.2)).2.1 (kthf L sz 3 (kaps L sz 5 (tSS (tempty T) 5 v) (ktp L sz 59 (knp L sz 0))).2.1 (ktp L sz 59 (kaps L sz 5 (tSS (tempty T) 5 v) (ktp L sz 59 (knp L sz 0))).2.2)).2.2
          else kthf L sz 3 (kaps L sz 5 (tSS (tempty T) 5 v) (ktp L sz 59 (knp L sz 0))).2.1 (ktp L sz 59 (kaps L sz 5 (tSS (tempty T) 5 v) (ktp L sz 59 (knp L sz 0))).2.2))
        else kend L sz (kaps L sz 5 (tSS (tempty T) 5 v) (ktp L sz 59 (knp L sz 0))).2.1 (ktp L sz 59 (kaps L sz 5 (tSS (tempty T) 5 v) (ktp L sz 59 (knp L sz 0))).2.2))
      else kaps L sz 5 (tSS (tempty T) 5 v) (ktp L sz 59 (knp L sz 0)))
    else (false, tempty T, ktp L sz 59 (knp L sz 0))
set_option maxHeartbeats 4000000 in
set_option maxRecDepth 100000 in
theorem c_X3_readTown {E : xE} {h : xHp} {bk bw : Nat} {L : Nat → Nat} {sz : Nat} (hdk : bw + 7 ≤ bk ∨ bk + 2 ≤ bw) (hz : sz ≤ 80) (hL : ∀ i, L i ≤ 126) {p : Nat} {T : xT} (hOK : tOK T) : PMI E mX3_readTown [.ref bk, .ref bw] (KH E (TH E h bw T) bk (L, sz, p)) (bI (ktown L sz T).1) (KH E (TH E h bw (ktown L sz T).2.1) bk (L, sz, (ktown L sz T).2.2)) := by
  refine pm_of [some (.ref bk), some (.ref bw), none] (by decide +kernel) (Nat.le_of_ble_eq_true rfl) rfl ?_
  refine px_aload_n dX3_readTown_0 rfl ?_
  refine px_iconst (v := nI 0) dX3_readTown_1 (by decide) ?_
  refine px_kPP dX3_readTown_2 (Or.inl fl_X3_19) ?_
  refine px_aload_n dX3_readTown_5 rfl ?_
  refine px_heap (h2 := TH E (KH E h bk (L, sz, 0)) bw T) (putB_swap (by omega)) ?_
  refine px_vv (M2 := mX4_empty) (c_X4_empty) mw_X4_empty wm_X4_empty we_X4_empty (Or.inr ⟨_, ml_X3_22⟩) dX3_readTown_6 (TH_obj) rfl (by decide) rfl rfl (Nat.le_of_ble_eq_true rfl) ⟨rfl, rfl⟩ ?_
  refine px_heap (h2 := KH E (TH E h bw (tempty T)) bk (L, sz, 0)) (putB_swap (by omega)) ?_
  refine px_aload_n dX3_readTown_9 rfl ?_
  refine px_vi (M2 := mX3_readNumber) (c_X3_readNumber hz hL (Nat.zero_le _)) mw_X3_readNumber wm_X3_readNumber we_X3_readNumber (Or.inl ml_X3_27) dX3_readTown_10 (KH_obj) rfl (by decide) rfl rfl (Nat.le_of_ble_eq_true rfl) ⟨rfl, rfl⟩ ?_
  rcases hv : knm L sz 0 with _ | v
  · refine px_topi (show eI none = -1 from rfl) ?_
    refine px_istn_2 dX3_readTown_13 (by decide) rfl ?_
    refine px_iload_n dX3_readTown_14 rfl ?_
    refine px_if_lt 27 dX3_readTown_15 (by decide) (fun _ => ?_) (fun z => absurd z (by decide))
    refine px_iconst (v := nI 0) dX3_readTown_27 (by decide) ?_
    have e0 : ktown L sz T = (false, tempty T, knp L sz 0) := by simp only [ktown, hv]
    exact px_bret (b := (ktown L sz T).1) dX3_readTown_28 rfl rfl rfl (by rw [e0]; rfl) ⟨rfl, by rw [e0]⟩
  · have hv9 := knm_b hv
    have hp2 : ktp L sz 59 (knp L sz 0) ≤ sz := ktp_b (knp_b (Nat.zero_le _))
    refine px_topi (show eI (some v) = nI v from rfl) ?_
    refine px_istn_2 dX3_readTown_13 (by decide) rfl ?_
    refine px_iload_n dX3_readTown_14 rfl ?_
    refine px_if_ltN 27 dX3_readTown_15 (by decide) (by omega) ?_
    refine px_aload_n dX3_readTown_18 rfl ?_
    refine px_bipush (v := nI 59) dX3_readTown_19 (by decide) ?_
    refine px_vi (M2 := mX3_takes) (c_X3_takes hz hL (knp_b (Nat.zero_le _)) 59 (by decide)) mw_X3_takes wm_X3_takes we_X3_takes (Or.inl ml_X3_31) dX3_readTown_21 (KH_obj) rfl (by decide) rfl rfl (Nat.le_of_ble_eq_true rfl) ⟨rfl, rfl⟩ ?_
    refine px_if_neB 29 dX3_readTown_24 (by decide) (fun c24 => ?_) (fun c24 => ?_)
    · refine px_aload_n dX3_readTown_29 rfl ?_
      refine px_iload_n dX3_readTown_30 rfl ?_
      refine px_heap (h2 := TH E (KH E h bk (L, sz, (ktp L sz 59 (knp L sz 0)))) bw (tempty T)) (putB_swap (by omega)) ?_
      refine px_tP 5 dX3_readTown_31 (Or.inr ⟨_, fl_X3_35⟩) (by decide) ?_
      refine px_heap (h2 := KH E (TH E h bw (tSS (tempty T) 5 v)) bk (L, sz, (ktp L sz 59 (knp L sz 0)))) (putB_swap (by omega)) ?_
      refine px_aload_n dX3_readTown_34 rfl ?_
      refine px_aload_n dX3_readTown_35 rfl ?_
      have hT1 : tOK (tSS (tempty T) 5 v) := tSS_ok (tempty_ok hOK) (by omega)
      have hA := kaps_ok (L := L) (sz := sz) 5 (tSS (tempty T) 5 v) (ktp L sz 59 (knp L sz 0)) hT1 (by show 0 + 5 < 6; omega) hp2
      refine px_vi (M2 := mX3_readApprentices) (c_X3_readApprentices hdk hz hL hp2 hT1 rfl) mw_X3_readApprentices wm_X3_readApprentices we_X3_readApprentices (Or.inl ml_X3_38) dX3_readTown_36 (KH_obj) rfl (by decide) rfl rfl (Nat.le_of_ble_eq_true rfl) ⟨rfl, rfl⟩ ?_
      refine px_if_neB 44 dX3_readTown_39 (by decide) (fun c39 => ?_) (fun c39 => ?_)
      · refine px_aload_n dX3_readTown_44 rfl ?_
        refine px_bipush (v := nI 59) dX3_readTown_45 (by decide) ?_
        refine px_vi (M2 := mX3_takes) (c_X3_takes hz hL (hA.2.2 c39) 59 (by decide)) mw_X3_takes wm_X3_takes we_X3_takes (Or.inl ml_X3_31) dX3_readTown_47 (KH_obj) rfl (by decide) rfl rfl (Nat.le_of_ble_eq_true rfl) ⟨rfl, rfl⟩ ?_
        refine px_if_eqB 63 dX3_readTown_50 (by decide) (fun c50 => ?_) (fun c50 => ?_)
        · refine px_aload_n dX3_readTown_63 rfl ?_
          have hq : ktp L sz 59 (kaps L sz 5 (tSS (tempty T) 5 v) (ktp L sz 59 (knp L sz 0))).2.2 ≤ sz := ktp_b (hA.2.2 c39)
          refine px_vi (M2 := mX3_peek) (c_peek hz hL hq) mw_X3_peek wm_X3_peek we_X3_peek (Or.inl ml_X3_45) dX3_readTown_64 (KH_obj) rfl (by decide) rfl rfl (Nat.le_of_ble_eq_true rfl) ⟨rfl, rfl⟩ ?_
          rcases hk : kat L sz (ktp L sz 59 (kaps L sz 5 (tSS (tempty T) 5 v) (ktp L sz 59 (knp L sz 0))).2.2) with _ | cc
          · refine px_topi (show eI none = -1 from rfl) ?_
            refine px_iconst (v := -1) dX3_readTown_67 (by decide) ?_
            refine px_icmp_ne 75 dX3_readTown_68 (by decide) (fun z => absurd z (by decide)) (fun _ => ?_)
            refine px_iconst (v := nI 1) dX3_readTown_71 (by decide) ?_
            refine px_goto 76 dX3_readTown_72 (by decide) ?_
            have e0 : ktown L sz T = kend L sz (kaps L sz 5 (tSS (tempty T) 5 v) (ktp L sz 59 (knp L sz 0))).2.1 (ktp L sz 59 (kaps L sz 5 (tSS (tempty T) 5 v) (ktp L sz 59 (knp L sz 0))).2.2) := by simp only [ktown, hv]; rw [if_pos c24, if_pos c39, if_neg (by simp [c50])]
            have e1 : decide (kat L sz (ktp L sz 59 (kaps L sz 5 (tSS (tempty T) 5 v) (ktp L sz 59 (knp L sz 0))).2.2) = none) = true := by rw [hk]; rfl
            exact px_bret (b := (ktown L sz T).1) dX3_readTown_76 rfl rfl rfl (by rw [e0, kend, e1]; rfl) ⟨rfl, by rw [e0, kend]⟩
          · have hkl := kat_lt hk
            have hcc : cc ≤ 126 := by rw [hkl.2]; exact hL _
            refine px_topi (show eI (some cc) = nI cc from rfl) ?_
            refine px_iconst (v := -1) dX3_readTown_67 (by decide) ?_
            refine px_icmp_ne 75 dX3_readTown_68 (by decide) (fun _ => ?_) (fun z => absurd z.symm (nI_nem1 (by omega)))
            refine px_iconst (v := nI 0) dX3_readTown_75 (by decide) ?_
            have e0 : ktown L sz T = kend L sz (kaps L sz 5 (tSS (tempty T) 5 v) (ktp L sz 59 (knp L sz 0))).2.1 (ktp L sz 59 (kaps L sz 5 (tSS (tempty T) 5 v) (ktp L sz 59 (knp L sz 0))).2.2) := by simp only [ktown, hv]; rw [if_pos c24, if_pos c39, if_neg (by simp [c50])]
            have e1 : decide (kat L sz (ktp L sz 59 (kaps L sz 5 (tSS (tempty T) 5 v) (ktp L sz 59 (knp L sz 0))).2.2) = none) = false := by rw [hk]; rfl
            exact px_bret (b := (ktown L sz T).1) dX3_readTown_76 rfl rfl rfl (by rw [e0, kend, e1]; rfl) ⟨rfl, by rw [e0, kend]⟩
        · refine px_aload_n dX3_readTown_53 rfl ?_
          refine px_aload_n dX3_readTown_54 rfl ?_
          have hTf := kthf_ok (L := L) (sz := sz) 3 (kaps L sz 5 (tSS (tempty T) 5 v) (ktp L sz 59 (knp L sz 0))).2.1 (ktp L sz 59 (kaps L sz 5 (tSS (tempty T) 5 v) (ktp L sz 59 (knp L sz 0))).2.2) hA.1 (by rw [hA.2.1]; show 0 + 3 < 4; omega) (ktp_b (hA.2.2 c39))
          refine px_vi (M2 := mX3_readThieves) (c_X3_readThieves hdk hz hL (ktp_b (hA.2.2 c39)) hA.1 (by rw [hA.2.1]; rfl)) mw_X3_readThieves wm_X3_readThieves we_X3_readThieves (Or.inl ml_X3_42) dX3_readTown_55 (KH_obj) rfl (by decide) rfl rfl (Nat.le_of_ble_eq_true rfl) ⟨rfl, rfl⟩ ?_
          refine px_if_neB 63 dX3_readTown_58 (by decide) (fun c58 => ?_) (fun c58 => ?_)
          · refine px_aload_n dX3_readTown_63 rfl ?_
            have hq : (kthf L sz 3 (kaps L sz 5 (tSS (tempty T) 5 v) (ktp L sz 59 (knp L sz 0))).2.1 (ktp L sz 59 (kaps L sz 5 (tSS (tempty T) 5 v) (ktp L sz 59 (knp L sz 0))).2.2)).2.2 ≤ sz := hTf.2 c58
            refine px_vi (M2 := mX3_peek) (c_peek hz hL hq) mw_X3_peek wm_X3_peek we_X3_peek (Or.inl ml_X3_45) dX3_readTown_64 (KH_obj) rfl (by decide) rfl rfl (Nat.le_of_ble_eq_true rfl) ⟨rfl, rfl⟩ ?_
            rcases hk : kat L sz (kthf L sz 3 (kaps L sz 5 (tSS (tempty T) 5 v) (ktp L sz 59 (knp L sz 0))).2.1 (ktp L sz 59 (kaps L sz 5 (tSS (tempty T) 5 v) (ktp L sz 59 (knp L sz 0))).2.2)).2.2 with _ | cc
            · refine px_topi (show eI none = -1 from rfl) ?_
              refine px_iconst (v := -1) dX3_readTown_67 (by decide) ?_
              refine px_icmp_ne 75 dX3_readTown_68 (by decide) (fun z => absurd z (by decide)) (fun _ => ?_)
              refine px_iconst (v := nI 1) dX3_readTown_71 (by decide) ?_
              refine px_goto 76 dX3_readTown_72 (by decide) ?_
              have e0 : ktown L sz T = kend L sz (kthf L sz 3 (kaps L sz 5 (tSS (tempty T) 5 v) (ktp L sz 59 (knp L sz 0))).2.1 (ktp L sz 59 (kaps L sz 5 (tSS (tempty T) 5 v) (ktp L sz 59 (knp L sz 0))).2.2)).2.1 (kthf L sz 3 (kaps L sz 5 (tSS (tempty T) 5 v) (ktp L sz 59 (knp L sz 0))).2.1 (ktp L sz 59 (kaps L sz 5 (tSS (tempty T) 5 v) (ktp L sz 59 (knp L sz 0))).2.2)).2.2 := by simp only [ktown, hv]; rw [if_pos c24, if_pos c39, if_pos c50, if_pos c58]
              have e1 : decide (kat L sz (kthf L sz 3 (kaps L sz 5 (tSS (tempty T) 5 v) (ktp L sz 59 (knp L sz 0))).2.1 (ktp L sz 59 (kaps L sz 5 (tSS (tempty T) 5 v) (ktp L sz 59 (knp L sz 0))).2.2)).2.2 = none) = true := by rw [hk]; rfl
              exact px_bret (b := (ktown L sz T).1) dX3_readTown_76 rfl rfl rfl (by rw [e0, kend, e1]; rfl) ⟨rfl, by rw [e0, kend]⟩
            · have hkl := kat_lt hk
              have hcc : cc ≤ 126 := by rw [hkl.2]; exact hL _
              refine px_topi (show eI (some cc) = nI cc from rfl) ?_
              refine px_iconst (v := -1) dX3_readTown_67 (by decide) ?_
              refine px_icmp_ne 75 dX3_readTown_68 (by decide) (fun _ => ?_) (fun z => absurd z.symm (nI_nem1 (by omega)))
              refine px_iconst (v := nI 0) dX3_readTown_75 (by decide) ?_
              have e0 : ktown L sz T = kend L sz (kthf L sz 3 (kaps L sz 5 (tSS (tempty T) 5 v) (ktp L sz 59 (knp L sz 0))).2.1 (ktp L sz 59 (kaps L sz 5 (tSS (tempty T) 5 v) (ktp L sz 59 (knp L sz 0))).2.2)).2.1 (kthf L sz 3 (kaps L sz 5 (tSS (tempty T) 5 v) (ktp L sz 59 (knp L sz 0))).2.1 (ktp L sz 59 (kaps L sz 5 (tSS (tempty T) 5 v) (ktp L sz 59 (knp L sz 0))).2.2)).2.2 := by simp only [ktown, hv]; rw [if_pos c24, if_pos c39, if_pos c50, if_pos c58]
              have e1 : decide (kat L sz (kthf L sz 3 (kaps L sz 5 (tSS (tempty T) 5 v) (ktp L sz 59 (knp L sz 0))).2.1 (ktp L sz 59 (kaps L sz 5 (tSS (tempty T) 5 v) (ktp L sz 59 (knp L sz 0))).2.2)).2.2 = none) = false := by rw [hk]; rfl
              exact px_bret (b := (ktown L sz T).1) dX3_readTown_76 rfl rfl rfl (by rw [e0, kend, e1]; rfl) ⟨rfl, by rw [e0, kend]⟩
          · refine px_iconst (v := nI 0) dX3_readTown_61 (by decide) ?_
            have e0 : ktown L sz T = (kthf L sz 3 (kaps L sz 5 (tSS (tempty T) 5 v) (ktp L sz 59 (knp L sz 0))).2.1 (ktp L sz 59 (kaps L sz 5 (tSS (tempty T) 5 v) (ktp L sz 59 (knp L sz 0))).2.2)) := by simp only [ktown, hv]; rw [if_pos c24, if_pos c39, if_pos c50, if_neg (by simp [c58])]
            exact px_bret (b := (ktown L sz T).1) dX3_readTown_62 rfl rfl rfl (by rw [e0, c58]; rfl) ⟨rfl, by rw [e0]⟩
      · refine px_iconst (v := nI 0) dX3_readTown_42 (by decide) ?_
        have e0 : ktown L sz T = (kaps L sz 5 (tSS (tempty T) 5 v) (ktp L sz 59 (knp L sz 0))) := by simp only [ktown, hv]; rw [if_pos c24, if_neg (by simp [c39])]
        exact px_bret (b := (ktown L sz T).1) dX3_readTown_43 rfl rfl rfl (by rw [e0, c39]; rfl) ⟨rfl, by rw [e0]⟩
    · refine px_iconst (v := nI 0) dX3_readTown_27 (by decide) ?_
      have e0 : ktown L sz T = (false, tempty T, ktp L sz 59 (knp L sz 0)) := by simp only [ktown, hv]; rw [if_neg (by simp [c24])]
      exact px_bret (b := (ktown L sz T).1) dX3_readTown_28 rfl rfl rfl (by rw [e0]; rfl) ⟨rfl, by rw [e0]⟩
