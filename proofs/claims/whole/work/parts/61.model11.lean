/-! ===== the reference's town ===== -/
def kthi (L : Nat → Nat) (sz : Nat) (T : xT) (p : Nat) : Option xT × Nat := match kdg L sz 9 p with
  | none => (none, kdp L sz 9 p)
  | some sk => match kdg L sz 4 (kdp L sz 9 p) with
    | none => (none, kdp L sz 4 (kdp L sz 9 p))
    | some wv => (some (taddT T sk wv), kdp L sz 4 (kdp L sz 9 p))
def ThfP (L : Nat → Nat) (sz : Nat) (T : xT) (p dr : Nat) (b : Bool) (q : Nat) (g' : Nat → Nat) : Prop := (b = true ∧ ∃ T2, kthi L sz T p = (some T2, q) ∧ Rep g' (tSS T2 6 dr) ∧ tOK T2 ∧ T2.2 1 = T.2 1 + 1 ∧ T2.2 4 = T.2 4) ∨ (b = false ∧ kthi L sz T p = (none, q))
theorem kthf_n {L : Nat → Nat} {sz p q : Nat} {T : xT} (h : kthi L sz T p = (none, q)) : ∀ n, kthf L sz n T p = (false, T, q) := by
  unfold kthi at h
  intro n
  cases h1 : kdg L sz 9 p with
  | none =>
    rw [h1] at h
    cases h
    cases n with
    | zero => simp only [kthf, h1]
    | succ n => simp only [kthf, h1]
  | some sk =>
    rw [h1] at h
    cases h2 : kdg L sz 4 (kdp L sz 9 p) with
    | none =>
      simp only [h2] at h
      cases h
      cases n with
      | zero => simp only [kthf, h1, h2]
      | succ n => simp only [kthf, h1, h2]
    | some wv => simp only [h2] at h; cases h
theorem kthf_y {L : Nat → Nat} {sz p q : Nat} {T T2 : xT} (h : kthi L sz T p = (some T2, q)) : kthf L sz 0 T p = (true, T2, q) ∧ ∀ n, kthf L sz (n + 1) T p = if ktk L sz 44 q then kthf L sz n T2 (ktp L sz 44 q) else (true, T2, ktp L sz 44 q) := by
  unfold kthi at h
  cases h1 : kdg L sz 9 p with
  | none => rw [h1] at h; cases h
  | some sk =>
    rw [h1] at h
    cases h2 : kdg L sz 4 (kdp L sz 9 p) with
    | none => simp only [h2] at h; cases h
    | some wv =>
      simp only [h2] at h
      cases h
      exact ⟨by simp only [kthf, h1, h2], fun n => by simp only [kthf, h1, h2]⟩
theorem kaps_0 {L : Nat → Nat} {sz p q : Nat} {T T2 : xT} (h : kapp L sz T p = (some T2, q)) : kaps L sz 0 T p = (true, T2, q) := by simp only [kaps, h]
theorem kaps_s {L : Nat → Nat} {sz p q : Nat} {T T2 : xT} (h : kapp L sz T p = (some T2, q)) (n : Nat) : kaps L sz (n + 1) T p = if ktk L sz 44 q then kaps L sz n T2 (ktp L sz 44 q) else (true, T2, ktp L sz 44 q) := by simp only [kaps, h]
theorem kaps_n {L : Nat → Nat} {sz p q : Nat} {T : xT} (h : kapp L sz T p = (none, q)) : ∀ n, kaps L sz n T p = (false, T, q)
  | 0 => by simp only [kaps, h]
  | n + 1 => by simp only [kaps, h]
def kaf2 (L : Nat → Nat) (sz : Nat) (r : Bool × xT × Nat) : Bool × xT × Nat := if r.1 then kend L sz r.2.1 r.2.2 else r
def kaft (L : Nat → Nat) (sz : Nat) (r : Bool × xT × Nat) : Bool × xT × Nat := if r.1 then (if ktk L sz 59 r.2.2 then kaf2 L sz (kthf L sz 3 r.2.1 (ktp L sz 59 r.2.2)) else kend L sz r.2.1 (ktp L sz 59 r.2.2)) else r
theorem kaft_f {L : Nat → Nat} {sz p : Nat} {T : xT} (h : ktk L sz 59 p = false) : kaft L sz (true, T, p) = kend L sz T (ktp L sz 59 p) := by
  unfold kaft
  rw [if_pos rfl, if_neg (by rw [h]; decide)]
theorem kaft_t {L : Nat → Nat} {sz p : Nat} {T : xT} (h : ktk L sz 59 p = true) : kaft L sz (true, T, p) = kaf2 L sz (kthf L sz 3 T (ktp L sz 59 p)) := by
  unfold kaft
  rw [if_pos rfl, if_pos h]
theorem kaft_dig {L : Nat → Nat} {sz q : Nat} {T : xT} (h : dig L sz q = true) : (kaft L sz (true, T, q)).1 = false ∧ (kaft L sz (true, T, q)).2.2 = q := by
  have h1 := dig_s h (c := 59) (Or.inr (by decide))
  obtain ⟨k1, k2, k3⟩ := dig_k h
  rw [kaft_f h1.1, h1.2]
  unfold kend
  refine ⟨?_, k1⟩
  show decide (kat L sz q = none) = false
  rw [k2]
  rfl
theorem kaps_bad {L : Nat → Nat} {sz p q : Nat} {T : xT} (h : kapp L sz T p = (none, q) ∨ ∃ T2, kapp L sz T p = (some T2, q) ∧ dig L sz q = true) : ∀ n, (kaft L sz (kaps L sz n T p)).1 = false ∧ (kaft L sz (kaps L sz n T p)).2.2 = q := by
  intro n
  rcases h with h | ⟨T2, h, hd⟩
  · rw [kaps_n h]; exact ⟨rfl, rfl⟩
  · cases n with
    | zero => rw [kaps_0 h]; exact kaft_dig hd
    | succ n =>
      have h1 := dig_s hd (c := 44) (Or.inl (by decide))
      rw [kaps_s h, if_neg (by rw [h1.1]; decide), h1.2]
      exact kaft_dig hd
theorem ktown_k {L : Nat → Nat} {sz v : Nat} {T : xT} (hn : knm L sz 0 = some v) (he : ktk L sz 59 (knp L sz 0) = true) : ktown L sz T = kaft L sz (kaps L sz 5 (tSS (tempty T) 5 v) (ktp L sz 59 (knp L sz 0))) := by
  simp only [ktown, hn, he, if_true]
  rfl
theorem ktown_f {L : Nat → Nat} {sz v : Nat} {T : xT} (hn : knm L sz 0 = some v) (he : ktk L sz 59 (knp L sz 0) = false) : ktown L sz T = (false, tempty T, ktp L sz 59 (knp L sz 0)) := by
  simp only [ktown, hn, he, Bool.false_eq_true, if_false]
theorem ktown_n {L : Nat → Nat} {sz : Nat} {T : xT} (hn : knm L sz 0 = none) : ktown L sz T = (false, tempty T, knp L sz 0) := by
  simp only [ktown, hn]
theorem kaft_ok {L : Nat → Nat} {sz p : Nat} {T : xT} (h : tOK T) (h1 : T.2 1 = 0) (hp : p ≤ sz) : tOK (kaft L sz (true, T, p)).2.1 := by
  cases he : ktk L sz 59 p
  · rw [kaft_f he]; exact h
  · rw [kaft_t he]
    have := kthf_ok (L := L) 3 T (ktp L sz 59 p) h (by omega) (ktp_b hp)
    unfold kaf2
    split
    · exact this.1
    · exact this.1
theorem ktown_ok {L : Nat → Nat} {sz : Nat} {T : xT} (h : tOK T) : tOK (ktown L sz T).2.1 := by
  cases hn : knm L sz 0 with
  | none => rw [ktown_n hn]; exact tempty_ok h
  | some v =>
    cases he : ktk L sz 59 (knp L sz 0)
    · rw [ktown_f hn he]; exact tempty_ok h
    · rw [ktown_k hn he]
      have hv := knm_b hn
      have h5 : tOK (tSS (tempty T) 5 v) := tSS_ok (tempty_ok h) (by omega)
      have hp : ktp L sz 59 (knp L sz 0) ≤ sz := ktp_b (knp_b (Nat.zero_le _))
      have hk := kaps_ok (L := L) 5 (tSS (tempty T) 5 v) (ktp L sz 59 (knp L sz 0)) h5 (by show 0 + 5 < 6; decide) hp
      cases hb : (kaps L sz 5 (tSS (tempty T) 5 v) (ktp L sz 59 (knp L sz 0))).1
      · unfold kaft
        rw [if_neg (by rw [hb]; decide)]
        exact hk.1
      · have e : kaps L sz 5 (tSS (tempty T) 5 v) (ktp L sz 59 (knp L sz 0)) = (true, (kaps L sz 5 (tSS (tempty T) 5 v) (ktp L sz 59 (knp L sz 0))).2.1, (kaps L sz 5 (tSS (tempty T) 5 v) (ktp L sz 59 (knp L sz 0))).2.2) := by
          rw [← hb]
        rw [e]
        exact kaft_ok hk.1 hk.2.1 (hk.2.2 hb)
abbrev QK (E : xE) (h : xHp) (w : Nat) (D : xMd) (dr : Nat) (K : Bool × xT × Nat) : Option Value → xHp → Prop := fun v h1 => v = some (.int (bI K.1)) ∧ ∃ (x' : Int32) (g' : Nat → Nat), (K.1 = true → Rep g' (tSS K.2.1 6 dr) ∧ tOK K.2.1 ∧ K.2.1.2 4 = 0 ∧ g' 39 = 0) ∧ h1 = MH E h w (kD D K.2.2 x' g')
def zfn (f : Nat → Nat) (i : Nat) : Nat → Nat := fun q => if q < i then 0 else f q
theorem zfn_0 (f : Nat → Nat) : zfn f 0 = f := by
  funext q
  unfold zfn
  rw [if_neg (by omega)]
theorem zfn_s (f : Nat → Nat) (i : Nat) : va_up (zfn f i) i 0 = zfn f (i + 1) := by
  funext q
  by_cases hq : q = i
  · subst hq
    rw [va_up_self]
    unfold zfn
    rw [if_pos (by omega)]
  · rw [va_up_ne _ _ hq]
    unfold zfn
    by_cases h1 : q < i
    · rw [if_pos h1, if_pos (by omega)]
    · rw [if_neg h1, if_neg (by omega)]
theorem zrep {f : Nat → Nat} {T : xT} {dr : Nat} : Rep (va_up (zfn f 216) 1 dr) (tSS (tSS (tempty T) 5 0) 6 dr) := by
  have hz : ∀ q, q < 216 → q ≠ 1 → va_up (zfn f 216) 1 dr q = 0 := fun q hq h1 => by
    rw [va_up_ne _ _ h1]
    unfold zfn
    rw [if_pos hq]
  refine ⟨⟨hz 0 (by decide) (by decide), va_up_self _ _ _, hz 20 (by decide) (by decide), hz 21 (by decide) (by decide), hz 22 (by decide) (by decide), hz 23 (by decide) (by decide), hz 30 (by decide) (by decide)⟩, fun a ha => absurd ha (Nat.not_lt_zero a), fun t ht => absurd ht (Nat.not_lt_zero t)⟩
theorem town_bar {g : Nat → Nat} {T : xT} {dr v : Nat} (R : Rep g (tSS (tSS (tempty T) 5 0) 6 dr)) : Rep (va_up g 22 v) (tSS (tSS (tempty T) 5 v) 6 dr) := by
  have h := R.ups5 (v := v) (by show (0 : Nat) ≤ 6; decide) (by show (0 : Nat) ≤ 4; decide)
  rw [tSS_comm _ (show (6 : Nat) ≠ 5 by decide), tSS_twice] at h
  exact h
theorem town_no {O : xO} {D : xMd} {q : Nat} {x : Int32} {g : Nat → Nat} (hR : Rel O D) : Rel (otn O) (sLn (kD D q x g) 0) := ⟨hR.1, hR.2.1, hR.2.2.1, ⟨rfl, Nat.zero_le _, hR.2.2.2.1.2.2.1, fun i hi => absurd hi (Nat.not_lt_zero i)⟩, ⟨hR.2.2.2.2.1, ktown_ok hR.2.2.2.2.2⟩⟩
theorem town_yes {O : xO} {D : xMd} {q : Nat} {x : Int32} {g : Nat → Nat} (hR : Rel O D) (R' : Rep g (tSS (okt O).2.1 6 ((O.1.1 0).2 6))) (hO : tOK (okt O).2.1) (h4 : (okt O).2.1.2 4 = 0) (h39 : g 39 = 0) : Rel (oty O) (brc (sLn (kD D q x g) 0) 2 0 0 0 216) := by
  have hdr : (O.1.1 0).2 6 < 2 ^ 31 := hR.1.2.1.1.1.2.2.2.2.2.2
  have hO6 : tOK (tSS (okt O).2.1 6 ((O.1.1 0).2 6)) := tSS_ok hO (by omega)
  have e : ∀ i, i < 216 → va_cpy g (D.1 0) 0 0 216 i = g i := fun i hi => cpy_in hi
  have hN : RN (va_cpy g (D.1 0) 0 0 216) (tSS (okt O).2.1 6 ((O.1.1 0).2 6)) ((O.1.2 0).1, (O.1.2 0).2.1, 0) := RN.none (R'.cong hO6.1.1 hO6.1.2.1 (fun i hi => e i (by omega))) hO6 (by show (okt O).2.1.2 4 ≤ 9999; omega) ((e 39 (by decide)).trans h39) hR.1.2.2.2.2.1
  exact ⟨hN, hR.2.1, hR.2.2.1, ⟨rfl, Nat.zero_le _, hR.2.2.2.1.2.2.1, fun i hi => absurd hi (Nat.not_lt_zero i)⟩, ⟨hR.2.2.2.2.1, hO6⟩⟩
set_option maxHeartbeats 4000000 in
set_option maxRecDepth 100000 in
theorem c_X6_isThiefItem {E : xE} {h : xHp} {w : Nat} {D : xMd} {L : Nat → Nat} {sz : Nat} (hK : KT D L sz) {x : Int32} {g : Nat → Nat} {p : Nat} (hp : p ≤ sz) {T : xT} {dr : Nat} (R : Rep g (tSS T 6 dr)) (hOK : tOK T) (hdr : dr < 2 ^ 31) (h4 : T.2 1 < 4) : PMet E mX6_isThiefItem [.ref w] (MH E h w (kD D (p) (x) (g))) (fun v h1 => ∃ (b : Bool) (q : Nat) (x' : Int32) (g' : Nat → Nat), v = some (.int (bI b)) ∧ ThfP L sz T p dr b q g' ∧ q ≤ sz ∧ g' 39 = g 39 ∧ h1 = MH E h w (kD D q x' g')) := by
  refine pm_of [some (.ref w), none] (by decide +kernel) (Nat.le_of_ble_eq_true rfl) rfl ?_
  refine px_aload_n dX6_isThiefItem_0 rfl ?_
  refine px_iconst (v := nI 0) dX6_isThiefItem_1 (by decide) ?_
  refine px_bipush (v := nI 9) dX6_isThiefItem_2 (by decide) ?_
  refine px_vi (M2 := mX6_isDigit) (c_X6_isDigit hK hp 9 (by decide)) mw_X6_isDigit wm_X6_isDigit we_X6_isDigit (Or.inl ml_X6_86) dX6_isThiefItem_4 (MH_obj) rfl (by decide) rfl rfl (Nat.le_of_ble_eq_true rfl) ⟨rfl, rfl⟩ ?_
  rcases hs : kdg L sz 9 (p) with _ | sk
  · refine px_topi (show bI (none : Option Nat).isSome = nI 0 from rfl) ?_
    refine px_if_ne 12 dX6_isThiefItem_7 (by decide) (fun z => absurd z (by decide)) (fun _ => ?_)
    refine px_iconst (v := nI 0) dX6_isThiefItem_10 (by decide) ?_
    exact px_bret (b := false) dX6_isThiefItem_11 rfl rfl rfl rfl ⟨false, _, _, _, rfl, Or.inr ⟨rfl, (by simp only [kthi, hs])⟩, kdp_b hp, rfl, rfl⟩
  · have hsb := kdg_b hs
    have hsn := kdg_num hK hs
    refine px_heap (h2 := (MH E h w (kD D (kdp L sz 9 (p)) (nI sk) (g)))) (by rw [hsn]) ?_
    refine px_topi (show bI (some sk).isSome = nI 1 from rfl) ?_
    refine px_if_ne 12 dX6_isThiefItem_7 (by decide) (fun _ => ?_) (fun z => absurd z (by decide))
    have hq1 : kdp L sz 9 (p) ≤ sz := kdp_b hp
    refine px_aload_n dX6_isThiefItem_12 rfl ?_
    refine px_get xk_X6 6 dX6_isThiefItem_13 (Or.inl fl_X6_83) MH_obj (by decide) rfl (px_topi (show _ = nI sk from rfl) ?_)
    refine px_istn_1 dX6_isThiefItem_16 (by decide) rfl ?_
    refine px_aload_n dX6_isThiefItem_17 rfl ?_
    refine px_iconst (v := nI 0) dX6_isThiefItem_18 (by decide) ?_
    refine px_iconst (v := nI 4) dX6_isThiefItem_19 (by decide) ?_
    refine px_vi (M2 := mX6_isDigit) (c_X6_isDigit hK hq1 4 (by decide)) mw_X6_isDigit wm_X6_isDigit we_X6_isDigit (Or.inl ml_X6_86) dX6_isThiefItem_20 (MH_obj) rfl (by decide) rfl rfl (Nat.le_of_ble_eq_true rfl) ⟨rfl, rfl⟩ ?_
    rcases hw : kdg L sz 4 (kdp L sz 9 (p)) with _ | wv
    · refine px_topi (show bI (none : Option Nat).isSome = nI 0 from rfl) ?_
      refine px_if_ne 28 dX6_isThiefItem_23 (by decide) (fun z => absurd z (by decide)) (fun _ => ?_)
      refine px_iconst (v := nI 0) dX6_isThiefItem_26 (by decide) ?_
      exact px_bret (b := false) dX6_isThiefItem_27 rfl rfl rfl rfl ⟨false, _, _, _, rfl, Or.inr ⟨rfl, (by simp only [kthi, hs, hw])⟩, kdp_b hq1, rfl, rfl⟩
    · have hwb := kdg_b hw
      have hwn := kdg_num hK hw
      refine px_heap (h2 := (MH E h w (kD D (kdp L sz 4 (kdp L sz 9 (p))) (nI wv) (g)))) (by rw [hwn]) ?_
      refine px_topi (show bI (some wv).isSome = nI 1 from rfl) ?_
      refine px_if_ne 28 dX6_isThiefItem_23 (by decide) (fun _ => ?_) (fun z => absurd z (by decide))
      refine px_aload_n dX6_isThiefItem_28 rfl ?_
      refine px_get xk_X6 9 dX6_isThiefItem_29 (Or.inl fl_X6_29) MH_obj (by decide) rfl ?_
      refine px_iload_n dX6_isThiefItem_32 rfl ?_
      refine px_aload_n dX6_isThiefItem_33 rfl ?_
      refine px_get xk_X6 6 dX6_isThiefItem_34 (Or.inl fl_X6_83) MH_obj (by decide) rfl (px_topi (show _ = nI wv from rfl) ?_)
      refine px_callS (M2 := mX6_addThief) (c_addS R hOK hdr h4 sk wv) mw_X6_addThief wt_X6_addThief (Or.inl ml_X6_46) dX6_isThiefItem_37 (by decide) rfl rfl (Nat.le_of_ble_eq_true rfl) ⟨Nat.zero_le _, Nat.zero_le _⟩ (fun v h2 hq => ?_)
      obtain ⟨rfl, g1, R1, h39, rfl⟩ := hq
      refine px_pop dX6_isThiefItem_40 rfl ?_
      refine px_iconst (v := nI 1) dX6_isThiefItem_41 (by decide) ?_
      exact px_bret (b := true) dX6_isThiefItem_42 rfl rfl rfl rfl ⟨true, _, _, _, rfl, Or.inl ⟨rfl, _, (by simp only [kthi, hs, hw]), R1, taddT_ok hOK h4 hsb.1 hwb.1, taddT_s.2, rfl⟩, kdp_b hq1, h39, rfl⟩
set_option maxHeartbeats 4000000 in
set_option maxRecDepth 100000 in
theorem l_X6_isTown_125 {E : xE} {h : xHp} {w : Nat} {D : xMd} {L : Nat → Nat} {sz : Nat} (hK : KT D L sz) {x : Int32} {g : Nat → Nat} {T : xT} {dr p : Nat} (R : Rep g (tSS T 6 dr)) (hOK : tOK T) (hz4 : T.2 4 = 0) (h39 : g 39 = 0) (hp : p ≤ sz) {f : Int32} : PW E mX6_isTown (QK E h w D dr (kend L sz T p)) 0 0 125 [some (.ref w), some (.int f)] [] (MH E h w (kD D (p) (x) (g))) := by
  refine px_aload_n dX6_isTown_125 rfl ?_
  refine px_vi (M2 := mX6_peek) (c_X6_peek hK hp) mw_X6_peek wm_X6_peek we_X6_peek (Or.inl ml_X6_79) dX6_isTown_126 (MH_obj) rfl (by decide) rfl rfl (Nat.le_of_ble_eq_true rfl) ⟨rfl, rfl⟩ ?_
  rcases hk : kat L sz p with _ | c
  · refine px_topi (show zI none = nI 0 from rfl) ?_
    refine px_if_ne 136 dX6_isTown_129 (by decide) (fun z => absurd z (by decide)) (fun _ => ?_)
    refine px_iconst (v := nI 1) dX6_isTown_132 (by decide) ?_
    refine px_goto 137 dX6_isTown_133 (by decide) ?_
    exact px_bret (b := (kend L sz T p).1) dX6_isTown_137 rfl rfl rfl (by show _ = bI (decide (kat L sz p = none)); rw [hk]; rfl) ⟨rfl, x, g, fun _ => ⟨R, hOK, hz4, h39⟩, rfl⟩
  · have hc1 := hK.le hk
    have hc2 := hK.ge hk
    refine px_topi (show zI (some c) = nI c from rfl) ?_
    refine px_if_neN 136 dX6_isTown_129 (by decide) (by first | omega | (have := hK.2.1; omega)) (fun c129 => ?_) (fun c129 => ?_)
    · refine px_iconst (v := nI 0) dX6_isTown_136 (by decide) ?_
      exact px_bret (b := (kend L sz T p).1) dX6_isTown_137 rfl rfl rfl (by show _ = bI (decide (kat L sz p = none)); rw [hk]; rfl) ⟨rfl, x, g, fun _ => ⟨R, hOK, hz4, h39⟩, rfl⟩
    · omega
set_option maxHeartbeats 4000000 in
set_option maxRecDepth 100000 in
theorem l_X6_isTown_83f {E : xE} {h : xHp} {w : Nat} {D : xMd} {L : Nat → Nat} {sz : Nat} (hK : KT D L sz) {x : Int32} {g : Nat → Nat} {T : xT} {dr p : Nat} (R : Rep g (tSS T 6 dr)) (hOK : tOK T) (hz4 : T.2 4 = 0) (h39 : g 39 = 0) (hp : p ≤ sz) : PW E mX6_isTown (QK E h w D dr (kend L sz T p)) 0 0 83 [some (.ref w), some (.int (nI 0))] [] (MH E h w (kD D (p) (x) (g))) := by
  refine px_iload_n dX6_isTown_83 rfl ?_
  refine px_if_eq 125 dX6_isTown_84 (by decide) (fun _ => ?_) (fun z => absurd z (by decide))
  exact l_X6_isTown_125 hK R hOK hz4 h39 hp
set_option maxHeartbeats 4000000 in
set_option maxRecDepth 100000 in
theorem l_X6_isTown_83 {E : xE} {h : xHp} {w : Nat} {D : xMd} {L : Nat → Nat} {sz : Nat} (hK : KT D L sz) {dr : Nat} (hdr : dr < 2 ^ 31) : ∀ (n : Nat) (T : xT) (p : Nat) (x : Int32) (g : Nat → Nat), T.2 1 + n = 3 → Rep g (tSS T 6 dr) → tOK T → T.2 4 = 0 → g 39 = 0 → p ≤ sz → PW E mX6_isTown (QK E h w D dr (kaf2 L sz (kthf L sz n T p))) 0 0 83 [some (.ref w), some (.int (nI 1))] [] (MH E h w (kD D (p) (x) (g))) := by
  intro n
  induction n with
  | zero =>
    intro T p x g hn R hOK hz4 h39 hp
    refine px_iload_n dX6_isTown_83 rfl ?_
    refine px_if_eq 125 dX6_isTown_84 (by decide) (fun z => absurd z (by decide)) (fun _ => ?_)
    refine px_aload_n dX6_isTown_87 rfl ?_
    refine px_callV (M2 := mX6_isThiefItem) (c_X6_isThiefItem hK hp R hOK hdr (by omega)) mw_X6_isThiefItem wm_X6_isThiefItem we_X6_isThiefItem (Or.inl ml_X6_102) dX6_isTown_88 MH_obj rfl (by decide) rfl rfl (Nat.le_of_ble_eq_true rfl) ⟨Nat.zero_le _, Nat.zero_le _⟩ (fun v h2 hq => ?_)
    obtain ⟨b, q, x1, g1, rfl, hP, hq, hg, rfl⟩ := hq
    rcases hP with ⟨rfl, T2, hk, R2, hO2, h12, h42⟩ | ⟨rfl, hk⟩
    · have hg0 := hg.trans h39
      refine px_topi (show bI true = nI 1 from rfl) ?_
      refine px_if_ne 96 dX6_isTown_91 (by decide) (fun _ => ?_) (fun z => absurd z (by decide))
      refine px_aload_n dX6_isTown_96 rfl ?_
      refine px_get xk_X6 9 dX6_isTown_97 (Or.inl fl_X6_29) MH_obj (by decide) rfl ?_
      refine px_bipush (v := nI 30) dX6_isTown_100 (by decide) ?_
      refine px_bL (b := 2) (sB_at _ _ _) dX6_isTown_102 (by decide) (by omega) (show _ = T2.2 1 from R2.th) ?_
      refine px_iconst (v := nI 4) dX6_isTown_103 (by decide) ?_
      refine px_icmp_geN 120 dX6_isTown_104 (by decide) (by first | omega | (have := hK.2.1; omega)) (by first | omega | (have := hK.2.1; omega)) (fun c104 => ?_) (fun c104 => ?_)
      · refine px_iconst (v := nI 0) dX6_isTown_120 (by decide) ?_
        refine px_istn_1 dX6_isTown_121 (by decide) rfl ?_
        refine px_goto 83 dX6_isTown_122 (by decide) ?_
        have e : kaf2 L sz (kthf L sz 0 T p) = kend L sz T2 q := by rw [(kthf_y hk).1]; rfl
        rw [e]
        exact l_X6_isTown_83f hK R2 hO2 (h42.trans hz4) hg0 hq
      · omega
    · refine px_topi (show bI false = nI 0 from rfl) ?_
      refine px_if_ne 96 dX6_isTown_91 (by decide) (fun z => absurd z (by decide)) (fun _ => ?_)
      refine px_iconst (v := nI 0) dX6_isTown_94 (by decide) ?_
      have e : kaf2 L sz (kthf L sz 0 T p) = (false, T, q) := by rw [kthf_n hk]; rfl
      rw [e]
      exact px_bret (b := false) dX6_isTown_95 rfl rfl rfl rfl ⟨rfl, x1, g1, (fun z => by cases z), rfl⟩
  | succ n ih =>
    intro T p x g hn R hOK hz4 h39 hp
    refine px_iload_n dX6_isTown_83 rfl ?_
    refine px_if_eq 125 dX6_isTown_84 (by decide) (fun z => absurd z (by decide)) (fun _ => ?_)
    refine px_aload_n dX6_isTown_87 rfl ?_
    refine px_callV (M2 := mX6_isThiefItem) (c_X6_isThiefItem hK hp R hOK hdr (by omega)) mw_X6_isThiefItem wm_X6_isThiefItem we_X6_isThiefItem (Or.inl ml_X6_102) dX6_isTown_88 MH_obj rfl (by decide) rfl rfl (Nat.le_of_ble_eq_true rfl) ⟨Nat.zero_le _, Nat.zero_le _⟩ (fun v h2 hq => ?_)
    obtain ⟨b, q, x1, g1, rfl, hP, hq, hg, rfl⟩ := hq
    rcases hP with ⟨rfl, T2, hk, R2, hO2, h12, h42⟩ | ⟨rfl, hk⟩
    · have hg0 := hg.trans h39
      refine px_topi (show bI true = nI 1 from rfl) ?_
      refine px_if_ne 96 dX6_isTown_91 (by decide) (fun _ => ?_) (fun z => absurd z (by decide))
      refine px_aload_n dX6_isTown_96 rfl ?_
      refine px_get xk_X6 9 dX6_isTown_97 (Or.inl fl_X6_29) MH_obj (by decide) rfl ?_
      refine px_bipush (v := nI 30) dX6_isTown_100 (by decide) ?_
      refine px_bL (b := 2) (sB_at _ _ _) dX6_isTown_102 (by decide) (by omega) (show _ = T2.2 1 from R2.th) ?_
      refine px_iconst (v := nI 4) dX6_isTown_103 (by decide) ?_
      refine px_icmp_geN 120 dX6_isTown_104 (by decide) (by first | omega | (have := hK.2.1; omega)) (by first | omega | (have := hK.2.1; omega)) (fun c104 => ?_) (fun c104 => ?_)
      · omega
      · refine px_aload_n dX6_isTown_107 rfl ?_
        refine px_bipush (v := nI 44) dX6_isTown_108 (by decide) ?_
        refine px_vi (M2 := mX6_isSign) (c_X6_isSign hK hq 44 (by decide)) mw_X6_isSign wm_X6_isSign we_X6_isSign (Or.inl ml_X6_92) dX6_isTown_110 (MH_obj) rfl (by decide) rfl rfl (Nat.le_of_ble_eq_true rfl) ⟨rfl, rfl⟩ ?_
        rcases he : ktk L sz 44 q with _ | _
        · refine px_topi (show bI false = nI 0 from rfl) ?_
          refine px_if_eq 120 dX6_isTown_113 (by decide) (fun _ => ?_) (fun z => absurd z (by decide))
          refine px_iconst (v := nI 0) dX6_isTown_120 (by decide) ?_
          refine px_istn_1 dX6_isTown_121 (by decide) rfl ?_
          refine px_goto 83 dX6_isTown_122 (by decide) ?_
          have e : kaf2 L sz (kthf L sz (n + 1) T p) = kend L sz T2 (ktp L sz 44 q) := by rw [(kthf_y hk).2, if_neg (by rw [he]; decide)]; rfl
          rw [e]
          exact l_X6_isTown_83f hK R2 hO2 (h42.trans hz4) hg0 (ktp_b hq)
        · refine px_topi (show bI true = nI 1 from rfl) ?_
          refine px_if_eq 120 dX6_isTown_113 (by decide) (fun z => absurd z (by decide)) (fun _ => ?_)
          refine px_iconst (v := nI 1) dX6_isTown_116 (by decide) ?_
          refine px_goto 121 dX6_isTown_117 (by decide) ?_
          refine px_istn_1 dX6_isTown_121 (by decide) rfl ?_
          refine px_goto 83 dX6_isTown_122 (by decide) ?_
          rw [(kthf_y hk).2, if_pos he]
          exact ih T2 _ _ _ (by omega) R2 hO2 (h42.trans hz4) hg0 (ktp_b hq)
    · refine px_topi (show bI false = nI 0 from rfl) ?_
      refine px_if_ne 96 dX6_isTown_91 (by decide) (fun z => absurd z (by decide)) (fun _ => ?_)
      refine px_iconst (v := nI 0) dX6_isTown_94 (by decide) ?_
      have e : kaf2 L sz (kthf L sz (n + 1) T p) = (false, T, q) := by rw [kthf_n hk]; rfl
      rw [e]
      exact px_bret (b := false) dX6_isTown_95 rfl rfl rfl rfl ⟨rfl, x1, g1, (fun z => by cases z), rfl⟩
set_option maxHeartbeats 4000000 in
set_option maxRecDepth 100000 in
theorem l_X6_isTown_76 {E : xE} {h : xHp} {w : Nat} {D : xMd} {L : Nat → Nat} {sz : Nat} (hK : KT D L sz) {x : Int32} {g : Nat → Nat} {T : xT} {dr p : Nat} (hdr : dr < 2 ^ 31) (R : Rep g (tSS T 6 dr)) (hOK : tOK T) (hz4 : T.2 4 = 0) (h39 : g 39 = 0) (hp : p ≤ sz) (h10 : T.2 1 = 0) {f : Int32} : PW E mX6_isTown (QK E h w D dr (kaft L sz (true, T, p))) 0 0 76 [some (.ref w), some (.int f)] [] (MH E h w (kD D (p) (x) (g))) := by
  refine px_aload_n dX6_isTown_76 rfl ?_
  refine px_bipush (v := nI 59) dX6_isTown_77 (by decide) ?_
  refine px_vi (M2 := mX6_isSign) (c_X6_isSign hK hp 59 (by decide)) mw_X6_isSign wm_X6_isSign we_X6_isSign (Or.inl ml_X6_92) dX6_isTown_79 (MH_obj) rfl (by decide) rfl rfl (Nat.le_of_ble_eq_true rfl) ⟨rfl, rfl⟩ ?_
  rcases he : ktk L sz 59 p with _ | _
  · refine px_topi (show bI false = nI 0 from rfl) ?_
    refine px_istn_1 dX6_isTown_82 (by decide) rfl ?_
    rw [kaft_f he]
    exact l_X6_isTown_83f hK R hOK hz4 h39 (ktp_b hp)
  · refine px_topi (show bI true = nI 1 from rfl) ?_
    refine px_istn_1 dX6_isTown_82 (by decide) rfl ?_
    rw [kaft_t he]
    exact l_X6_isTown_83 hK hdr 3 T _ _ _ (by omega) R hOK hz4 h39 (ktp_b hp)
set_option maxHeartbeats 4000000 in
set_option maxRecDepth 100000 in
theorem l_X6_isTown_33f {E : xE} {h : xHp} {w : Nat} {D : xMd} {L : Nat → Nat} {sz : Nat} (hK : KT D L sz) {x : Int32} {g : Nat → Nat} {T : xT} {dr p : Nat} (hdr : dr < 2 ^ 31) (R : Rep g (tSS T 6 dr)) (hOK : tOK T) (hz4 : T.2 4 = 0) (h39 : g 39 = 0) (hp : p ≤ sz) (h10 : T.2 1 = 0) : PW E mX6_isTown (QK E h w D dr (kaft L sz (true, T, p))) 0 0 33 [some (.ref w), some (.int (nI 0))] [] (MH E h w (kD D (p) (x) (g))) := by
  refine px_iload_n dX6_isTown_33 rfl ?_
  refine px_if_eq 76 dX6_isTown_34 (by decide) (fun _ => ?_) (fun z => absurd z (by decide))
  exact l_X6_isTown_76 hK hdr R hOK hz4 h39 hp h10
set_option maxHeartbeats 4000000 in
set_option maxRecDepth 100000 in
theorem l_X6_isTown_33 {E : xE} {h : xHp} {w : Nat} {D : xMd} {L : Nat → Nat} {sz : Nat} (hK : KT D L sz) {dr : Nat} (hdr : dr < 2 ^ 31) : ∀ (n : Nat) (T : xT) (p : Nat) (x : Int32) (g : Nat → Nat), T.2 0 + n = 5 → T.2 1 = 0 → Rep g (tSS T 6 dr) → tOK T → T.2 4 = 0 → g 39 = 0 → p ≤ sz → PW E mX6_isTown (QK E h w D dr (kaft L sz (kaps L sz n T p))) 0 0 33 [some (.ref w), some (.int (nI 1))] [] (MH E h w (kD D (p) (x) (g))) := by
  intro n
  induction n with
  | zero =>
    intro T p x g hn h10 R hOK hz4 h39 hp
    refine px_iload_n dX6_isTown_33 rfl ?_
    refine px_if_eq 76 dX6_isTown_34 (by decide) (fun z => absurd z (by decide)) (fun _ => ?_)
    refine px_aload_n dX6_isTown_37 rfl ?_
    refine px_callV (M2 := mX6_isOneItem) (c_X6_isOneItem hK hp R hOK hdr (by omega)) mw_X6_isOneItem wm_X6_isOneItem we_X6_isOneItem (Or.inl ml_X6_99) dX6_isTown_38 MH_obj rfl (by decide) rfl rfl (Nat.le_of_ble_eq_true rfl) ⟨Nat.zero_le _, Nat.zero_le _⟩ (fun v h2 hq => ?_)
    obtain ⟨b, q, x1, g1, rfl, hP, hq, hg, rfl⟩ := hq
    rcases hP with ⟨rfl, T2, hk, R2, h42⟩ | ⟨rfl, hk⟩
    · have hg0 := hg.trans h39
      obtain ⟨hO2, h02, h12, _⟩ := kapp_y hOK (by omega) hp hk
      refine px_topi (show bI true = nI 1 from rfl) ?_
      refine px_if_ne 46 dX6_isTown_41 (by decide) (fun _ => ?_) (fun z => absurd z (by decide))
      refine px_aload_n dX6_isTown_46 rfl ?_
      refine px_get xk_X6 9 dX6_isTown_47 (Or.inl fl_X6_29) MH_obj (by decide) rfl ?_
      refine px_bipush (v := nI 23) dX6_isTown_50 (by decide) ?_
      refine px_bL (b := 2) (sB_at _ _ _) dX6_isTown_52 (by decide) (by omega) (show _ = T2.2 0 from R2.mn) ?_
      refine px_bipush (v := nI 6) dX6_isTown_53 (by decide) ?_
      refine px_icmp_geN 71 dX6_isTown_55 (by decide) (by first | omega | (have := hK.2.1; omega)) (by first | omega | (have := hK.2.1; omega)) (fun c55 => ?_) (fun c55 => ?_)
      · refine px_iconst (v := nI 0) dX6_isTown_71 (by decide) ?_
        refine px_istn_1 dX6_isTown_72 (by decide) rfl ?_
        refine px_goto 33 dX6_isTown_73 (by decide) ?_
        rw [kaps_0 hk]
        exact l_X6_isTown_33f hK hdr R2 hO2 (h42.trans hz4) hg0 hq (h12.trans h10)
      · omega
    · refine px_topi (show bI false = nI 0 from rfl) ?_
      refine px_if_ne 46 dX6_isTown_41 (by decide) (fun z => absurd z (by decide)) (fun _ => ?_)
      refine px_iconst (v := nI 0) dX6_isTown_44 (by decide) ?_
      have e := kaps_bad hk 0
      exact px_bret (b := (kaft L sz (kaps L sz 0 T p)).1) dX6_isTown_45 rfl rfl rfl (by rw [e.1]; rfl) ⟨rfl, x1, g1, (fun z => by rw [e.1] at z; cases z), (by rw [e.2])⟩
  | succ n ih =>
    intro T p x g hn h10 R hOK hz4 h39 hp
    refine px_iload_n dX6_isTown_33 rfl ?_
    refine px_if_eq 76 dX6_isTown_34 (by decide) (fun z => absurd z (by decide)) (fun _ => ?_)
    refine px_aload_n dX6_isTown_37 rfl ?_
    refine px_callV (M2 := mX6_isOneItem) (c_X6_isOneItem hK hp R hOK hdr (by omega)) mw_X6_isOneItem wm_X6_isOneItem we_X6_isOneItem (Or.inl ml_X6_99) dX6_isTown_38 MH_obj rfl (by decide) rfl rfl (Nat.le_of_ble_eq_true rfl) ⟨Nat.zero_le _, Nat.zero_le _⟩ (fun v h2 hq => ?_)
    obtain ⟨b, q, x1, g1, rfl, hP, hq, hg, rfl⟩ := hq
    rcases hP with ⟨rfl, T2, hk, R2, h42⟩ | ⟨rfl, hk⟩
    · have hg0 := hg.trans h39
      obtain ⟨hO2, h02, h12, _⟩ := kapp_y hOK (by omega) hp hk
      refine px_topi (show bI true = nI 1 from rfl) ?_
      refine px_if_ne 46 dX6_isTown_41 (by decide) (fun _ => ?_) (fun z => absurd z (by decide))
      refine px_aload_n dX6_isTown_46 rfl ?_
      refine px_get xk_X6 9 dX6_isTown_47 (Or.inl fl_X6_29) MH_obj (by decide) rfl ?_
      refine px_bipush (v := nI 23) dX6_isTown_50 (by decide) ?_
      refine px_bL (b := 2) (sB_at _ _ _) dX6_isTown_52 (by decide) (by omega) (show _ = T2.2 0 from R2.mn) ?_
      refine px_bipush (v := nI 6) dX6_isTown_53 (by decide) ?_
      refine px_icmp_geN 71 dX6_isTown_55 (by decide) (by first | omega | (have := hK.2.1; omega)) (by first | omega | (have := hK.2.1; omega)) (fun c55 => ?_) (fun c55 => ?_)
      · omega
      · refine px_aload_n dX6_isTown_58 rfl ?_
        refine px_bipush (v := nI 44) dX6_isTown_59 (by decide) ?_
        refine px_vi (M2 := mX6_isSign) (c_X6_isSign hK hq 44 (by decide)) mw_X6_isSign wm_X6_isSign we_X6_isSign (Or.inl ml_X6_92) dX6_isTown_61 (MH_obj) rfl (by decide) rfl rfl (Nat.le_of_ble_eq_true rfl) ⟨rfl, rfl⟩ ?_
        rcases he : ktk L sz 44 q with _ | _
        · refine px_topi (show bI false = nI 0 from rfl) ?_
          refine px_if_eq 71 dX6_isTown_64 (by decide) (fun _ => ?_) (fun z => absurd z (by decide))
          refine px_iconst (v := nI 0) dX6_isTown_71 (by decide) ?_
          refine px_istn_1 dX6_isTown_72 (by decide) rfl ?_
          refine px_goto 33 dX6_isTown_73 (by decide) ?_
          rw [kaps_s hk, if_neg (by rw [he]; decide)]
          exact l_X6_isTown_33f hK hdr R2 hO2 (h42.trans hz4) hg0 (ktp_b hq) (h12.trans h10)
        · refine px_topi (show bI true = nI 1 from rfl) ?_
          refine px_if_eq 71 dX6_isTown_64 (by decide) (fun z => absurd z (by decide)) (fun _ => ?_)
          refine px_iconst (v := nI 1) dX6_isTown_67 (by decide) ?_
          refine px_goto 72 dX6_isTown_68 (by decide) ?_
          refine px_istn_1 dX6_isTown_72 (by decide) rfl ?_
          refine px_goto 33 dX6_isTown_73 (by decide) ?_
          rw [kaps_s hk, if_pos he]
          exact ih T2 _ _ _ (by omega) (h12.trans h10) R2 hO2 (h42.trans hz4) hg0 (ktp_b hq)
    · refine px_topi (show bI false = nI 0 from rfl) ?_
      refine px_if_ne 46 dX6_isTown_41 (by decide) (fun z => absurd z (by decide)) (fun _ => ?_)
      refine px_iconst (v := nI 0) dX6_isTown_44 (by decide) ?_
      have e := kaps_bad hk (n + 1)
      exact px_bret (b := (kaft L sz (kaps L sz (n + 1) T p)).1) dX6_isTown_45 rfl rfl rfl (by rw [e.1]; rfl) ⟨rfl, x1, g1, (fun z => by rw [e.1] at z; cases z), (by rw [e.2])⟩
set_option maxHeartbeats 4000000 in
set_option maxRecDepth 100000 in
theorem c_X6_isTown {E : xE} {h : xHp} {w : Nat} {D : xMd} {L : Nat → Nat} {sz : Nat} (hK : KT D L sz) {x : Int32} {g : Nat → Nat} {T : xT} {dr : Nat} (hdr : dr < 2 ^ 31) (R : Rep g (tSS (tSS (tempty T) 5 0) 6 dr)) (hOK : tOK T) (h39 : g 39 = 0) : PMet E mX6_isTown [.ref w] (MH E h w (kD D (0) (x) (g))) (QK E h w D dr (ktown L sz T)) := by
  refine pm_of [some (.ref w), none] (by decide +kernel) (Nat.le_of_ble_eq_true rfl) rfl ?_
  refine px_aload_n dX6_isTown_0 rfl ?_
  refine px_callV (M2 := mX6_isNumber) (c_X6_isNumber (p := 0) hK (Nat.zero_le _)) mw_X6_isNumber wm_X6_isNumber we_X6_isNumber (Or.inl ml_X6_95) dX6_isTown_1 MH_obj rfl (by decide) rfl rfl (Nat.le_of_ble_eq_true rfl) ⟨Nat.zero_le _, Nat.zero_le _⟩ (fun v h2 hq => ?_)
  obtain ⟨rfl, x1, hx1, rfl⟩ := hq
  rcases hn : knm L sz 0 with _ | v
  · refine px_topi (show bI (rok L sz 0) = nI 0 by unfold rok; rw [hn]; rfl) ?_
    refine px_if_ne 9 dX6_isTown_4 (by decide) (fun z => absurd z (by decide)) (fun _ => ?_)
    refine px_iconst (v := nI 0) dX6_isTown_7 (by decide) ?_
    rw [ktown_n hn]
    exact px_bret (b := false) dX6_isTown_8 rfl rfl rfl rfl ⟨rfl, _, _, (fun z => by cases z), rfl⟩
  · have hx2 := hx1 v hn
    have hvb := knm_b hn
    subst hx2
    rcases hg : dig L sz (knp L sz 0) with _ | _
    · refine px_topi (show bI (rok L sz 0) = nI 1 by unfold rok; rw [hn, hg]; rfl) ?_
      refine px_if_ne 9 dX6_isTown_4 (by decide) (fun _ => ?_) (fun z => absurd z (by decide))
      refine px_aload_n dX6_isTown_9 rfl ?_
      refine px_get xk_X6 9 dX6_isTown_10 (Or.inl fl_X6_29) MH_obj (by decide) rfl ?_
      refine px_bipush (v := nI 22) dX6_isTown_13 (by decide) ?_
      refine px_aload_n dX6_isTown_15 rfl ?_
      refine px_get xk_X6 6 dX6_isTown_16 (Or.inl fl_X6_83) MH_obj (by decide) rfl (px_topi (show _ = nI v from rfl) ?_)
      refine px_bWs (b := 2) dX6_isTown_19 (by decide) (by decide) ?_
      refine px_aload_n dX6_isTown_20 rfl ?_
      refine px_bipush (v := nI 59) dX6_isTown_21 (by decide) ?_
      refine px_vi (M2 := mX6_isSign) (c_X6_isSign hK (knp_b (Nat.zero_le _)) 59 (by decide)) mw_X6_isSign wm_X6_isSign we_X6_isSign (Or.inl ml_X6_92) dX6_isTown_23 (MH_obj) rfl (by decide) rfl rfl (Nat.le_of_ble_eq_true rfl) ⟨rfl, rfl⟩ ?_
      rcases he : ktk L sz 59 (knp L sz 0) with _ | _
      · refine px_topi (show bI false = nI 0 from rfl) ?_
        refine px_if_ne 31 dX6_isTown_26 (by decide) (fun z => absurd z (by decide)) (fun _ => ?_)
        refine px_iconst (v := nI 0) dX6_isTown_29 (by decide) ?_
        rw [ktown_f hn he]
        exact px_bret (b := false) dX6_isTown_30 rfl rfl rfl rfl ⟨rfl, _, _, (fun z => by cases z), rfl⟩
      · refine px_topi (show bI true = nI 1 from rfl) ?_
        refine px_if_ne 31 dX6_isTown_26 (by decide) (fun _ => ?_) (fun z => absurd z (by decide))
        refine px_iconst (v := nI 1) dX6_isTown_31 (by decide) ?_
        refine px_istn_1 dX6_isTown_32 (by decide) rfl ?_
        rw [ktown_k hn he]
        exact l_X6_isTown_33 hK hdr 5 (tSS (tempty T) 5 v) _ _ _ rfl rfl (town_bar R) (tSS_ok (tempty_ok hOK) (by omega)) rfl ((va_up_ne _ _ (by omega)).trans h39) (ktp_b (knp_b (Nat.zero_le _)))
    · refine px_topi (show bI (rok L sz 0) = nI 0 by unfold rok; rw [hn, hg]; rfl) ?_
      refine px_if_ne 9 dX6_isTown_4 (by decide) (fun z => absurd z (by decide)) (fun _ => ?_)
      refine px_iconst (v := nI 0) dX6_isTown_7 (by decide) ?_
      rw [ktown_f hn (dig_s hg (Or.inr (by decide))).1, (dig_s hg (c := 59) (Or.inr (by decide))).2]
      exact px_bret (b := false) dX6_isTown_8 rfl rfl rfl rfl ⟨rfl, _, _, (fun z => by cases z), rfl⟩
set_option maxHeartbeats 4000000 in
set_option maxRecDepth 100000 in
theorem l_X6_town_22 {E : xE} {h : xHp} {w : Nat} {D : xMd} {O : xO} (hR : Rel O D) {f : Int32} : PW E mX6_town (fun v h1 => v = some (.int (if (okt O).1 then nI ((okt O).2.1.2 0) else -20 - nI (okt O).2.2)) ∧ ∃ D', Rel (if (okt O).1 then oty O else otn O) D' ∧ h1 = MH E h w D') 0 0 22 [some (.ref w), some (.int f)] [] (MH E h w (sB D 2 (zfn (D.1 2) 216))) := by
  have R := hR.1.1
  have hOK := hR.1.2.1.1
  have hm6 := hOK.1.1
  have hm4 := hOK.1.2.1
  have hN9 := hR.1.2.1.2
  have hK : KT D O.2.2.1.1 O.2.2.1.2.1 := hR.2.2.2.1
  refine px_aload_n dX6_town_22 rfl ?_
  refine px_get xk_X6 9 dX6_town_23 (Or.inl fl_X6_29) MH_obj (by decide) rfl ?_
  refine px_iconst (v := nI 1) dX6_town_26 (by decide) ?_
  refine px_aload_n dX6_town_27 rfl ?_
  refine px_get xk_X6 7 dX6_town_28 (Or.inl fl_X6_23) MH_obj (by decide) rfl ?_
  refine px_iconst (v := nI 1) dX6_town_31 (by decide) ?_
  refine px_bL (b := 0) (g := D.1 0) rfl dX6_town_32 (by decide) (by decide) R.dr ?_
  refine px_bWs (b := 2) dX6_town_33 (by decide) (by decide) ?_
  refine px_aload_n dX6_town_34 rfl ?_
  refine px_iconst (v := nI 0) dX6_town_35 (by decide) ?_
  refine px_pPo dX6_town_36 (Or.inl fl_X6_76) (px_heap (h2 := (MH E h w (kD D (0) (mNu D) (va_up (zfn (D.1 2) 216) 1 ((O.1.1 0).2 6))))) rfl ?_)
  refine px_aload_n dX6_town_39 rfl ?_
  refine px_callV (M2 := mX6_isTown) (c_X6_isTown (T := O.1.1 3) hK (hOK.lts (by decide)) zrep hR.2.2.2.2.2 (by rw [va_up_ne _ _ (by decide)]; rfl)) mw_X6_isTown wm_X6_isTown we_X6_isTown (Or.inl ml_X6_105) dX6_town_40 MH_obj rfl (by decide) rfl rfl (Nat.le_of_ble_eq_true rfl) ⟨Nat.zero_le _, Nat.zero_le _⟩ (fun v h2 hq => ?_)
  obtain ⟨rfl, x1, g1, hy, rfl⟩ := hq
  refine px_topi (show _ = bI (okt O).1 from rfl) ?_
  refine px_istn_1 dX6_town_43 (by decide) rfl ?_
  refine px_aload_n dX6_town_44 rfl ?_
  refine px_iconst (v := nI 0) dX6_town_45 (by decide) ?_
  refine px_pLn dX6_town_46 (Or.inl fl_X6_72) ?_
  refine px_iload_n dX6_town_49 rfl ?_
  refine px_if_neB 61 dX6_town_50 (by decide) (fun c50 => ?_) (fun c50 => ?_)
  · refine px_aload_n dX6_town_61 rfl ?_
    refine px_get xk_X6 9 dX6_town_62 (Or.inl fl_X6_29) MH_obj (by decide) rfl ?_
    refine px_iconst (v := nI 0) dX6_town_65 (by decide) ?_
    refine px_aload_n dX6_town_66 rfl ?_
    refine px_get xk_X6 7 dX6_town_67 (Or.inl fl_X6_23) MH_obj (by decide) rfl ?_
    refine px_iconst (v := nI 0) dX6_town_70 (by decide) ?_
    refine px_sipush (v := nI 216) dX6_town_71 (by decide) ?_
    refine px_sv (c_X6_bring 2 0 0 0 216 (by decide) (by decide) (by decide) (by decide) (Or.inl (by decide))) mw_X6_bring wt_X6_bring (Or.inl ml_X6_108) dX6_town_74 (by decide) rfl rfl (Nat.le_of_ble_eq_true rfl) ⟨rfl, rfl⟩ ?_
    refine px_aload_n dX6_town_77 rfl ?_
    refine px_get xk_X6 7 dX6_town_78 (Or.inl fl_X6_23) MH_obj (by decide) rfl ?_
    refine px_bipush (v := nI 23) dX6_town_81 (by decide) ?_
    refine px_bL (b := 0) (g := va_cpy g1 (D.1 0) 0 0 216) rfl dX6_town_83 (by decide) (by decide) ((cpy_in (by decide)).trans (show _ = (okt O).2.1.2 0 from (hy c50).1.mn)) ?_
    exact px_iret dX6_town_84 rfl rfl rfl ⟨(by rw [if_pos c50]), _, (by rw [if_pos c50]; exact town_yes hR (hy c50).1 (hy c50).2.1 (hy c50).2.2.1 (hy c50).2.2.2), rfl⟩
  · refine px_bipush (v := -20) dX6_town_53 (by decide) ?_
    refine px_aload_n dX6_town_55 rfl ?_
    refine px_get xk_X6 5 dX6_town_56 (Or.inl fl_X6_76) MH_obj (by decide) rfl (px_topi (show _ = nI ((okt O).2.2) from rfl) ?_)
    refine px_isub dX6_town_59 ?_
    exact px_iret dX6_town_60 rfl rfl rfl ⟨(by rw [if_neg (by rw [c50]; decide)]), _, (by rw [if_neg (by rw [c50]; decide)]; exact town_no hR), rfl⟩
set_option maxHeartbeats 4000000 in
set_option maxRecDepth 100000 in
theorem l_X6_town {E : xE} {h : xHp} {w : Nat} {D : xMd} {O : xO} (hR : Rel O D) : ∀ (n i : Nat), i ≤ 216 → 217 ≤ i + n → PW E mX6_town (fun v h1 => v = some (.int (if (okt O).1 then nI ((okt O).2.1.2 0) else -20 - nI (okt O).2.2)) ∧ ∃ D', Rel (if (okt O).1 then oty O else otn O) D' ∧ h1 = MH E h w D') 0 0 2 [some (.ref w), some (.int (nI i))] [] (MH E h w (sB D 2 (zfn (D.1 2) i))) := by
  intro n
  induction n with
  | zero =>
    intro i h1 h2
    omega
  | succ n ih =>
    intro i h1 h2
    refine px_iload_n dX6_town_2 rfl ?_
    refine px_sipush (v := nI 216) dX6_town_3 (by decide) ?_
    refine px_icmp_geN 22 dX6_town_6 (by decide) (by omega) (by omega) (fun c6 => ?_) (fun c6 => ?_)
    · have hi : i = 216 := by omega
      subst hi
      exact l_X6_town_22 hR
    · refine px_aload_n dX6_town_9 rfl ?_
      refine px_get xk_X6 9 dX6_town_10 (Or.inl fl_X6_29) MH_obj (by decide) rfl ?_
      refine px_iload_n dX6_town_13 rfl ?_
      refine px_iconst (v := nI 0) dX6_town_14 (by decide) ?_
      refine px_bWs (b := 2) dX6_town_15 (by decide) (by omega) (px_heap (h2 := MH E h w (sB D 2 (zfn (D.1 2) (i + 1)))) (by rw [zfn_s]) ?_)
      refine px_inc_1 dX6_town_16 rfl (nI_1 _) (by decide) rfl ?_
      refine px_goto 2 dX6_town_19 (by decide) ?_
      exact ih (i + 1) (by omega) (by omega)
set_option maxHeartbeats 4000000 in
set_option maxRecDepth 100000 in
theorem c_X6_town {E : xE} {h : xHp} {w : Nat} {D : xMd} {O : xO} (hR : Rel O D)  : PMX E mX6_town [.ref w] h w D (if (okt O).1 then nI ((okt O).2.1.2 0) else -20 - nI (okt O).2.2) (if (okt O).1 then oty O else otn O) := by
  have R := hR.1.1
  have hOK := hR.1.2.1.1
  have hm6 := hOK.1.1
  have hm4 := hOK.1.2.1
  have hN9 := hR.1.2.1.2
  refine pm_of [some (.ref w), none] (by decide +kernel) (Nat.le_of_ble_eq_true rfl) rfl ?_
  refine px_iconst (v := nI 0) dX6_town_0 (by decide) ?_
  refine px_istn_1 dX6_town_1 (by decide) rfl ?_
  refine px_heap (h2 := MH E h w (sB D 2 (zfn (D.1 2) 0))) (by rw [zfn_0, sB_self]) ?_
  exact l_X6_town hR 217 0 (by omega) (by omega)
