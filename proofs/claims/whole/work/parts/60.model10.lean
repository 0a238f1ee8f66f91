/-! ===== the reference's tape ===== -/
abbrev kD (D : xMd) (p : Nat) (x : Int32) (g : Nat → Nat) : xMd := sB (sNu (sPo D p) x) 2 g
def KT (D : xMd) (L : Nat → Nat) (sz : Nat) : Prop := mLn D = sz ∧ sz ≤ 80 ∧ (∀ i, L i ≤ 126) ∧ ∀ i, i < sz → mTp D i = L i ∧ 32 ≤ L i
def zI : Option Nat → Int32
  | none => nI 0
  | some c => nI c
def dig (L : Nat → Nat) (sz q : Nat) : Bool := decide (q < sz ∧ 48 ≤ L q ∧ L q ≤ 57)
def rok (L : Nat → Nat) (sz p : Nat) : Bool := (knm L sz p).isSome && !dig L sz (knp L sz p)
theorem kat_y {L : Nat → Nat} {sz p : Nat} (h1 : p < sz) (h2 : L p = 32) : kat L sz p = kat L sz (p + 1) := by
  unfold kat
  rw [kskip_y h1 h2]
theorem kat_e {L : Nat → Nat} {sz p : Nat} (h : sz ≤ p) : kat L sz p = none := by
  unfold kat
  rw [kskip_n (Or.inl h), if_neg (by omega)]
theorem kat_l {L : Nat → Nat} {sz p : Nat} (h : p < sz) (h2 : L p ≠ 32) : kat L sz p = some (L p) := by
  unfold kat
  rw [kskip_n (Or.inr h2), if_pos h]
theorem ktp_t {L : Nat → Nat} {sz c p : Nat} (h : ktk L sz c p = true) : ktp L sz c p = kskip L sz p + 1 := by unfold ktp; rw [if_pos h]
theorem ktp_f {L : Nat → Nat} {sz c p : Nat} (h : ktk L sz c p = false) : ktp L sz c p = kskip L sz p := by unfold ktp; rw [if_neg (by rw [h]; decide)]
theorem kdp_n {L : Nat → Nat} {sz m p : Nat} (h : (kdg L sz m p).isSome = false) : kdp L sz m p = kskip L sz p := by
  unfold kdp
  cases hk : kdg L sz m p with
  | none => rfl
  | some d => rw [hk] at h; cases h
theorem kdp_y {L : Nat → Nat} {sz m p : Nat} (h : (kdg L sz m p).isSome = true) : kdp L sz m p = kskip L sz p + 1 := by
  unfold kdp
  cases hk : kdg L sz m p with
  | none => rw [hk] at h; cases h
  | some d => rfl
theorem KT.le {D : xMd} {L : Nat → Nat} {sz p c : Nat} (hK : KT D L sz) (h : kat L sz p = some c) : c ≤ 126 := by rw [(kat_lt h).2]; exact hK.2.2.1 _
theorem KT.ge {D : xMd} {L : Nat → Nat} {sz p c : Nat} (hK : KT D L sz) (h : kat L sz p = some c) : 32 ≤ c := by rw [(kat_lt h).2]; exact (hK.2.2.2 _ (kat_lt h).1).2
theorem kdg_in {D : xMd} {L : Nat → Nat} {sz m p : Nat} (hK : KT D L sz) (hm : m ≤ 9) : decide (nI 0 ≤ zI (kat L sz p) - nI 48 ∧ zI (kat L sz p) - nI 48 ≤ nI m) = (kdg L sz m p).isSome := by
  unfold kdg
  cases hk : kat L sz p with
  | none =>
    refine decide_eq_false (fun q => ?_)
    exact absurd q.1 (by decide)
  | some c =>
    have hc := hK.le hk
    show decide (nI 0 ≤ nI c - nI 48 ∧ nI c - nI 48 ≤ nI m) = (if 48 ≤ c ∧ c - 48 ≤ m then some (c - 48) else none).isSome
    by_cases h1 : 48 ≤ c
    · rw [pk_sub h1]
      by_cases h2 : c - 48 ≤ m
      · rw [if_pos ⟨h1, h2⟩]
        exact decide_eq_true ⟨nI_le (by omega) (by omega), nI_le h2 (by omega)⟩
      · rw [if_neg (by omega)]
        refine decide_eq_false (fun q => ?_)
        have := Int32.le_iff_toInt_le.mp q.2
        rw [nI_toInt (by omega), nI_toInt (by omega)] at this
        omega
    · rw [if_neg (by omega)]
      refine decide_eq_false (fun q => ?_)
      have h3 := pk_sneg (a := c) (b := 48) (by decide) (by omega)
      exact absurd h3 (Int32.not_lt.mpr q.1)
theorem kdg_num {D : xMd} {L : Nat → Nat} {sz m p d : Nat} (hK : KT D L sz) (h : kdg L sz m p = some d) : zI (kat L sz p) - nI 48 = nI d := by
  unfold kdg at h
  cases hk : kat L sz p with
  | none => rw [hk] at h; cases h
  | some c =>
    rw [hk] at h
    by_cases hc : 48 ≤ c ∧ c - 48 ≤ m
    · simp only [if_pos hc] at h; cases h
      exact pk_sub hc.1
    · simp only [if_neg hc] at h; cases h
theorem in_dig {c : Nat} (hc : c ≤ 126) : decide (nI 48 ≤ nI c ∧ nI c ≤ nI 57) = decide (48 ≤ c ∧ c ≤ 57) := by
  refine decide_eq_decide.mpr ?_
  rw [Int32.le_iff_toInt_le, Int32.le_iff_toInt_le, nI_toInt (by decide), nI_toInt (by omega), nI_toInt (by decide)]
  omega
theorem knA {L : Nat → Nat} {sz p a : Nat} (hd : kdg L sz 9 p = some a) (h : sz ≤ kdp L sz 9 p) : knm L sz p = some a ∧ knp L sz p = kdp L sz 9 p := by
  unfold knm knp
  rw [hd]
  exact ⟨if_pos (Or.inl h), if_pos (Or.inl h)⟩
theorem kdg_dig {L : Nat → Nat} {sz q : Nat} (h1 : q < sz) (h2 : 48 ≤ L q ∧ L q ≤ 57) : kdg L sz 9 q = some (L q - 48) ∧ kdp L sz 9 q = q + 1 := by
  have e : kdg L sz 9 q = some (L q - 48) := by
    unfold kdg
    rw [kat_l h1 (by omega)]
    show (if 48 ≤ L q ∧ L q - 48 ≤ 9 then some (L q - 48) else none) = _
    rw [if_pos (by omega)]
  exact ⟨e, by rw [kdp_y (by rw [e]; rfl), kskip_n (Or.inr (by omega))]⟩
theorem kdg_nodig {L : Nat → Nat} {sz q : Nat} (h1 : q < sz) (h0 : L q ≠ 32) (h2 : ¬ (48 ≤ L q ∧ L q ≤ 57)) : kdg L sz 9 q = none ∧ kdp L sz 9 q = q := by
  have e : kdg L sz 9 q = none := by
    unfold kdg
    rw [kat_l h1 h0]
    show (if 48 ≤ L q ∧ L q - 48 ≤ 9 then some (L q - 48) else none) = _
    rw [if_neg (by omega)]
  exact ⟨e, by rw [kdp_n (by rw [e]; rfl), kskip_n (Or.inr h0)]⟩
theorem knB {L : Nat → Nat} {sz p a : Nat} (hd : kdg L sz 9 p = some a) (h : kdp L sz 9 p < sz) (h2 : ¬ (48 ≤ L (kdp L sz 9 p) ∧ L (kdp L sz 9 p) ≤ 57)) : knm L sz p = some a ∧ knp L sz p = kdp L sz 9 p := by
  unfold knm knp
  rw [hd]
  by_cases h0 : L (kdp L sz 9 p) = 32
  · exact ⟨if_pos (Or.inr h0), if_pos (Or.inr h0)⟩
  · have := kdg_nodig h h0 h2
    simp only [if_neg (show ¬ (sz ≤ kdp L sz 9 p ∨ L (kdp L sz 9 p) = 32) by omega), this.1, this.2, and_self]
theorem knC {L : Nat → Nat} {sz p a : Nat} (hd : kdg L sz 9 p = some a) (h : kdp L sz 9 p < sz) (h2 : 48 ≤ L (kdp L sz 9 p) ∧ L (kdp L sz 9 p) ≤ 57) : knm L sz p = some (10 * a + L (kdp L sz 9 p) - 48) ∧ knp L sz p = kdp L sz 9 p + 1 := by
  unfold knm knp
  rw [hd]
  have := kdg_dig h h2
  simp only [if_neg (show ¬ (sz ≤ kdp L sz 9 p ∨ L (kdp L sz 9 p) = 32) by omega), this.1, this.2]
  refine ⟨congrArg some ?_, trivial⟩
  omega
theorem kn0 {L : Nat → Nat} {sz p : Nat} (hd : kdg L sz 9 p = none) : knm L sz p = none ∧ knp L sz p = kdp L sz 9 p := by
  unfold knm knp
  rw [hd]
  exact ⟨rfl, rfl⟩
theorem dig_k {L : Nat → Nat} {sz q : Nat} (h : dig L sz q = true) : kskip L sz q = q ∧ (kat L sz q = some (L q)) ∧ 48 ≤ L q ∧ L q ≤ 57 := by
  have := of_decide_eq_true h
  exact ⟨kskip_n (Or.inr (by omega)), kat_l this.1 (by omega), this.2⟩
theorem dig_s {L : Nat → Nat} {sz q c : Nat} (h : dig L sz q = true) (hc : c < 48 ∨ 57 < c) : ktk L sz c q = false ∧ ktp L sz c q = q := by
  obtain ⟨h1, h2, h3, h4⟩ := dig_k h
  have e : ktk L sz c q = false := by
    unfold ktk
    rw [h2]
    exact decide_eq_false (fun z => by cases z; omega)
  exact ⟨e, by rw [ktp_f e, h1]⟩
def kby (c : Nat) : Option Nat := if c = 112 then some 0 else if c = 102 then some 1 else if c = 99 then some 2 else if c = 100 then some 3 else if c = 114 then some 4 else none
theorem kby_f : ∀ c : Fin 127, ffrom (pfq c.1) 5 0 = kby c.1 := by decide +kernel
theorem kin_z {D : xMd} {L : Nat → Nat} {sz p : Nat} (hK : KT D L sz) : ∃ c, c ≤ 126 ∧ zI (kat L sz p) = nI c ∧ kin L sz p = kby c := by
  cases hk : kat L sz p with
  | none => exact ⟨0, by omega, rfl, by unfold kin; rw [hk]; decide⟩
  | some c => exact ⟨c, hK.le hk, rfl, by unfold kin; rw [hk]; exact kby_f ⟨c, by have := hK.le hk; omega⟩⟩
theorem kin_le {D : xMd} {L : Nat → Nat} {sz p k : Nat} (hK : KT D L sz) (h : kin L sz p = some k) : k ≤ 4 := by
  unfold kin at h
  cases hk : kat L sz p with
  | none => rw [hk] at h; cases h
  | some c => rw [hk] at h; have := ffrom_lt h; omega
theorem tSS_comm (T : xT) {i j : Nat} (h : i ≠ j) (u v : Nat) : tSS (tSS T i u) j v = tSS (tSS T j v) i u := by
  unfold tSS
  refine Prod.ext rfl ?_
  funext q
  show (if q = j then v else if q = i then u else T.2 q) = if q = i then u else if q = j then v else T.2 q
  by_cases h1 : q = i
  · rw [if_neg (by omega), if_pos h1, if_pos h1]
  · rw [if_neg h1, if_neg h1]
theorem taddA_6 (T : xT) (k s c dr : Nat) : taddA (tSS T 6 dr) k s c = tSS (taddA T k s c) 6 dr := by
  show tSS (tSS (tSS (tSA (tSA (tSA (tSA T 0 (T.2 0) k) 1 (T.2 0) s) 2 (T.2 0) 0) 3 (T.2 0) c) 6 dr) 2 (T.2 2 ||| 2 ^ T.2 0)) 0 (T.2 0 + 1) = tSS (tSS (tSS (tSA (tSA (tSA (tSA T 0 (T.2 0) k) 1 (T.2 0) s) 2 (T.2 0) 0) 3 (T.2 0) c) 2 (T.2 2 ||| 2 ^ T.2 0)) 0 (T.2 0 + 1)) 6 dr
  rw [tSS_comm _ (show (6 : Nat) ≠ 2 by decide), tSS_comm _ (show (6 : Nat) ≠ 0 by decide)]
theorem taddT_6 (T : xT) (k c dr : Nat) : taddT (tSS T 6 dr) k c = tSS (taddT T k c) 6 dr := by
  show tSS (tSS (tSA (tSA T 4 (T.2 1) k) 5 (T.2 1) c) 6 dr) 1 (T.2 1 + 1) = tSS (tSS (tSA (tSA T 4 (T.2 1) k) 5 (T.2 1) c) 1 (T.2 1 + 1)) 6 dr
  rw [tSS_comm _ (show (6 : Nat) ≠ 1 by decide)]
theorem vup_same {α : Type} (f : Nat → α) {i : Nat} {v : α} (h : f i = v) : va_up f i v = f := by
  funext q
  by_cases hq : q = i
  · subst hq; rw [va_up_self, h]
  · rw [va_up_ne _ _ hq]
theorem add_0 {T : xT} {k s c : Nat} : (taddA T k s c).1 2 (T.2 0) = 0 ∧ (taddA T k s c).2 2 = T.2 2 ||| 2 ^ T.2 0 ∧ (taddA T k s c).2 4 = T.2 4 := by
  simp [taddA, tSS, tshow, tSA]
section ONE
variable {g : Nat → Nat} {X : xT} {dr a d : Nat}
theorem one_d (R : Rep g (tSS X 6 dr)) (h6 : X.2 0 ≤ 6) (h4 : X.2 1 ≤ 4) (ha : a < 6) : Rep (va_up g (2 + a) d) (tSS (tSA X 2 a d) 6 dr) := R.up2 (T := tSS X 6 dr) h6 h4 ha
theorem one_z (R : Rep g (tSS X 6 dr)) (h6 : X.2 0 ≤ 6) (h4 : X.2 1 ≤ 4) (ha : a < X.2 0) (hz : X.1 2 a = d) : Rep g (tSS (tSA X 2 a d) 6 dr) := by
  have h := one_d (d := d) (a := a) R h6 h4 (by omega)
  rw [vup_same g (show g (2 + a) = d from (R.de (T := tSS X 6 dr) ha).trans hz)] at h
  exact h
theorem one_x (R : Rep g (tSS X 6 dr)) (h6 : X.2 0 ≤ 6) (h4 : X.2 1 ≤ 4) : Rep (va_up g 20 (ndif (X.2 2) (2 ^ a))) (tSS (tshow X a false) 6 dr) := by
  have h := R.ups2 (T := tSS X 6 dr) h6 h4 (v := ndif (X.2 2) (2 ^ a))
  rw [tSS_comm _ (show (6 : Nat) ≠ 2 by decide)] at h
  exact h
theorem one_y (R : Rep g (tSS X 6 dr)) (h6 : X.2 0 ≤ 6) (h4 : X.2 1 ≤ 4) (hb : X.2 2 ||| 2 ^ a = X.2 2) : Rep g (tSS (tshow X a true) 6 dr) := by
  have h := R.ups2 (T := tSS X 6 dr) h6 h4 (v := X.2 2 ||| 2 ^ a)
  rw [tSS_comm _ (show (6 : Nat) ≠ 2 by decide), vup_same g (show g 20 = X.2 2 ||| 2 ^ a from (R.sh (T := tSS X 6 dr)).trans hb.symm)] at h
  exact h
end ONE
theorem c_addR {E : xE} {h : xHp} {w : Nat} {D : xMd} {p : Nat} {x : Int32} {g : Nat → Nat} {T : xT} {dr : Nat} (R : Rep g (tSS T 6 dr)) (hOK : tOK T) (hdr : dr < 2 ^ 31) (h6 : T.2 0 < 6) (kd s c : Nat) : PMet E mX6_addOne [.ref (w + 7), .int (nI kd), .int (nI s), .int (nI c)] (MH E h w (kD D p x g)) (fun v h1 => v = some (.int (nI (T.2 0))) ∧ ∃ g1, Rep g1 (tSS (taddA T kd s c) 6 dr) ∧ g1 39 = g 39 ∧ h1 = MH E h w (kD D p x g1)) := by
  refine pm_mono (c_X6_addOne (k := 2) (by decide) R (tSS_ok hOK (by omega)) h6 kd s c) (fun v h1 hq => ?_)
  obtain ⟨rfl, rfl⟩ := hq
  refine ⟨rfl, _, ?_, ?_, rfl⟩
  · have h := R.addA (T := tSS T 6 dr) (k := kd) (s := s) (c := c) h6 hOK.1.2.1
    rw [taddA_6] at h
    exact h
  · have h6 : (tSS T 6 dr).2 0 < 6 := h6
    rw [va_up_ne _ _ (by omega), va_up_ne _ _ (by omega), va_up_ne _ _ (by omega), va_up_ne _ _ (by omega), va_up_ne _ _ (by omega), va_up_ne _ _ (by omega)]
theorem c_addS {E : xE} {h : xHp} {w : Nat} {D : xMd} {p : Nat} {x : Int32} {g : Nat → Nat} {T : xT} {dr : Nat} (R : Rep g (tSS T 6 dr)) (hOK : tOK T) (hdr : dr < 2 ^ 31) (h4 : T.2 1 < 4) (kd c : Nat) : PMet E mX6_addThief [.ref (w + 7), .int (nI kd), .int (nI c)] (MH E h w (kD D p x g)) (fun v h1 => v = some (.int (nI (T.2 1))) ∧ ∃ g1, Rep g1 (tSS (taddT T kd c) 6 dr) ∧ g1 39 = g 39 ∧ h1 = MH E h w (kD D p x g1)) := by
  refine pm_mono (c_X6_addThief (k := 2) (by decide) R (tSS_ok hOK (by omega)) h4 kd c) (fun v h1 hq => ?_)
  obtain ⟨rfl, rfl⟩ := hq
  refine ⟨rfl, _, ?_, ?_, rfl⟩
  · have h := R.addT (T := tSS T 6 dr) (k := kd) (c := c) hOK.1.1 h4
    rw [taddT_6] at h
    exact h
  · have h4 : (tSS T 6 dr).2 1 < 4 := h4
    rw [va_up_ne _ _ (by omega), va_up_ne _ _ (by omega), va_up_ne _ _ (by omega)]
set_option maxHeartbeats 4000000 in
set_option maxRecDepth 100000 in
theorem l_X6_peek {E : xE} {h : xHp} {w : Nat} {D : xMd} {L : Nat → Nat} {sz : Nat} (hK : KT D L sz) {x : Int32} {g : Nat → Nat} : ∀ (n p : Nat), p ≤ sz → sz + 1 ≤ p + n → PW E mX6_peek (fun v h1 => v = some (.int (zI (kat L sz p))) ∧ h1 = (MH E h w (kD D (kskip L sz p) (x) (g)))) 0 0 0 [some (.ref w)] [] (MH E h w (kD D (p) (x) (g))) := by
  intro n
  induction n with
  | zero =>
    intro p h1 h2
    omega
  | succ n ih =>
    intro p h1 h2
    refine px_aload_n dX6_peek_0 rfl ?_
    refine px_get xk_X6 5 dX6_peek_1 (Or.inl fl_X6_76) MH_obj (by decide) rfl (px_topi (show _ = nI (p) from rfl) ?_)
    refine px_aload_n dX6_peek_4 rfl ?_
    refine px_get xk_X6 3 dX6_peek_5 (Or.inl fl_X6_72) MH_obj (by decide) rfl (px_topi (show _ = nI sz from congrArg nI hK.1) ?_)
    refine px_icmp_geN 38 dX6_peek_8 (by decide) (by first | omega | (have := hK.2.1; omega) | (have := hK.2.2.1 p; omega)) (by first | omega | (have := hK.2.1; omega) | (have := hK.2.2.1 p; omega)) (fun c8 => ?_) (fun c8 => ?_)
    · refine px_aload_n dX6_peek_38 rfl ?_
      refine px_get xk_X6 5 dX6_peek_39 (Or.inl fl_X6_76) MH_obj (by decide) rfl (px_topi (show _ = nI (p) from rfl) ?_)
      refine px_aload_n dX6_peek_42 rfl ?_
      refine px_get xk_X6 3 dX6_peek_43 (Or.inl fl_X6_72) MH_obj (by decide) rfl (px_topi (show _ = nI sz from congrArg nI hK.1) ?_)
      refine px_icmp_geN 61 dX6_peek_46 (by decide) (by first | omega | (have := hK.2.1; omega) | (have := hK.2.2.1 p; omega)) (by first | omega | (have := hK.2.1; omega) | (have := hK.2.2.1 p; omega)) (fun c46 => ?_) (fun c46 => ?_)
      · refine px_iconst (v := nI 0) dX6_peek_61 (by decide) ?_
        exact px_iret dX6_peek_62 rfl rfl rfl ⟨(by rw [kat_e c8]; rfl), (by rw [kskip_n (Or.inl c8)])⟩
      · omega
    · refine px_aload_n dX6_peek_11 rfl ?_
      refine px_get xk_X6 4 dX6_peek_12 (Or.inl fl_X6_20) MH_obj (by decide) rfl ?_
      refine px_aload_n dX6_peek_15 rfl ?_
      refine px_get xk_X6 5 dX6_peek_16 (Or.inl fl_X6_76) MH_obj (by decide) rfl (px_topi (show _ = nI (p) from rfl) ?_)
      refine px_tpL dX6_peek_19 (by have := hK.2.1; omega) (hK.2.2.2 p (by omega)).1 ?_
      refine px_bipush (v := nI 32) dX6_peek_20 (by decide) ?_
      refine px_icmp_neN 38 dX6_peek_22 (by decide) (by first | omega | (have := hK.2.1; omega) | (have := hK.2.2.1 p; omega)) (by first | omega | (have := hK.2.1; omega) | (have := hK.2.2.1 p; omega)) (fun c22 => ?_) (fun c22 => ?_)
      · refine px_aload_n dX6_peek_38 rfl ?_
        refine px_get xk_X6 5 dX6_peek_39 (Or.inl fl_X6_76) MH_obj (by decide) rfl (px_topi (show _ = nI (p) from rfl) ?_)
        refine px_aload_n dX6_peek_42 rfl ?_
        refine px_get xk_X6 3 dX6_peek_43 (Or.inl fl_X6_72) MH_obj (by decide) rfl (px_topi (show _ = nI sz from congrArg nI hK.1) ?_)
        refine px_icmp_geN 61 dX6_peek_46 (by decide) (by first | omega | (have := hK.2.1; omega) | (have := hK.2.2.1 p; omega)) (by first | omega | (have := hK.2.1; omega) | (have := hK.2.2.1 p; omega)) (fun c46 => ?_) (fun c46 => ?_)
        · omega
        · refine px_aload_n dX6_peek_49 rfl ?_
          refine px_get xk_X6 4 dX6_peek_50 (Or.inl fl_X6_20) MH_obj (by decide) rfl ?_
          refine px_aload_n dX6_peek_53 rfl ?_
          refine px_get xk_X6 5 dX6_peek_54 (Or.inl fl_X6_76) MH_obj (by decide) rfl (px_topi (show _ = nI (p) from rfl) ?_)
          refine px_tpL dX6_peek_57 (by have := hK.2.1; omega) (hK.2.2.2 p (by omega)).1 ?_
          refine px_goto 62 dX6_peek_58 (by decide) ?_
          exact px_iret dX6_peek_62 rfl rfl rfl ⟨(by rw [kat_l c8 c22]; rfl), (by rw [kskip_n (Or.inr c22)])⟩
      · refine px_aload_n dX6_peek_25 rfl ?_
        refine px_dup dX6_peek_26 rfl ?_
        refine px_get xk_X6 5 dX6_peek_27 (Or.inl fl_X6_76) MH_obj (by decide) rfl (px_topi (show _ = nI (p) from rfl) ?_)
        refine px_iconst (v := nI 1) dX6_peek_30 (by decide) ?_
        refine px_iaddN dX6_peek_31 ?_
        refine px_pPo dX6_peek_32 (Or.inl fl_X6_76) (px_heap (h2 := (MH E h w (kD D (p + 1) (x) (g)))) rfl ?_)
        refine px_goto 0 dX6_peek_35 (by decide) ?_
        rw [kat_y c8 c22, kskip_y c8 c22]
        exact ih (p + 1) (by omega) (by omega)
set_option maxHeartbeats 4000000 in
set_option maxRecDepth 100000 in
theorem c_X6_peek {E : xE} {h : xHp} {w : Nat} {D : xMd} {L : Nat → Nat} {sz : Nat} (hK : KT D L sz) {x : Int32} {g : Nat → Nat} {p : Nat} (hp : p ≤ sz) : PMI E mX6_peek [.ref w] (MH E h w (kD D (p) (x) (g))) (zI (kat L sz p)) (MH E h w (kD D (kskip L sz p) (x) (g))) := by
  refine pm_of [some (.ref w)] (by decide +kernel) (Nat.le_of_ble_eq_true rfl) rfl ?_
  exact l_X6_peek hK (sz + 1) p hp (by omega)
set_option maxHeartbeats 4000000 in
set_option maxRecDepth 100000 in
theorem c_X6_isSign {E : xE} {h : xHp} {w : Nat} {D : xMd} {L : Nat → Nat} {sz : Nat} (hK : KT D L sz) {x : Int32} {g : Nat → Nat} {p : Nat} (hp : p ≤ sz) (c : Nat) (hc : 1 ≤ c ∧ c ≤ 126) : PMI E mX6_isSign [.ref w, .int (nI c)] (MH E h w (kD D (p) (x) (g))) (bI (ktk L sz c p)) (MH E h w (kD D (ktp L sz c p) (x) (g))) := by
  refine pm_of [some (.ref w), some (.int (nI c))] (by decide +kernel) (Nat.le_of_ble_eq_true rfl) rfl ?_
  refine px_aload_n dX6_isSign_0 rfl ?_
  refine px_vi (M2 := mX6_peek) (c_X6_peek hK hp) mw_X6_peek wm_X6_peek we_X6_peek (Or.inl ml_X6_79) dX6_isSign_1 (MH_obj) rfl (by decide) rfl rfl (Nat.le_of_ble_eq_true rfl) ⟨rfl, rfl⟩ ?_
  rcases hk : kat L sz p with _ | b
  · refine px_topi (show zI none = nI 0 from rfl) ?_
    refine px_iload_n dX6_isSign_4 rfl ?_
    refine px_icmp_eqN 10 dX6_isSign_5 (by decide) (by first | omega | (have := hK.2.1; omega)) (by first | omega | (have := hK.2.1; omega)) (fun c5 => ?_) (fun c5 => ?_)
    · omega
    · refine px_iconst (v := nI 0) dX6_isSign_8 (by decide) ?_
      have e0 : ktk L sz c p = false := by unfold ktk; rw [hk]; exact decide_eq_false (fun z => by cases z)
      exact px_bret (b := ktk L sz c p) dX6_isSign_9 rfl rfl rfl (by rw [e0]; rfl) ⟨rfl, by rw [ktp_f e0]⟩
  · have hb := hK.le hk
    refine px_topi (show zI (some b) = nI b from rfl) ?_
    refine px_iload_n dX6_isSign_4 rfl ?_
    refine px_icmp_eqN 10 dX6_isSign_5 (by decide) (by first | omega | (have := hK.2.1; omega)) (by first | omega | (have := hK.2.1; omega)) (fun c5 => ?_) (fun c5 => ?_)
    · refine px_aload_n dX6_isSign_10 rfl ?_
      refine px_dup dX6_isSign_11 rfl ?_
      refine px_get xk_X6 5 dX6_isSign_12 (Or.inl fl_X6_76) MH_obj (by decide) rfl (px_topi (show _ = nI (kskip L sz (p)) from rfl) ?_)
      refine px_iconst (v := nI 1) dX6_isSign_15 (by decide) ?_
      refine px_iaddN dX6_isSign_16 ?_
      refine px_pPo dX6_isSign_17 (Or.inl fl_X6_76) (px_heap (h2 := (MH E h w (kD D (kskip L sz (p) + 1) (x) (g)))) rfl ?_)
      refine px_iconst (v := nI 1) dX6_isSign_20 (by decide) ?_
      have e0 : ktk L sz c p = true := by unfold ktk; rw [hk, c5]; exact decide_eq_true rfl
      exact px_bret (b := ktk L sz c p) dX6_isSign_21 rfl rfl rfl (by rw [e0]; rfl) ⟨rfl, by rw [ktp_t e0]⟩
    · refine px_iconst (v := nI 0) dX6_isSign_8 (by decide) ?_
      have e0 : ktk L sz c p = false := by unfold ktk; rw [hk]; exact decide_eq_false (fun z => by cases z; exact c5 rfl)
      exact px_bret (b := ktk L sz c p) dX6_isSign_9 rfl rfl rfl (by rw [e0]; rfl) ⟨rfl, by rw [ktp_f e0]⟩
set_option maxHeartbeats 4000000 in
set_option maxRecDepth 100000 in
theorem c_X6_isDigit {E : xE} {h : xHp} {w : Nat} {D : xMd} {L : Nat → Nat} {sz : Nat} (hK : KT D L sz) {x : Int32} {g : Nat → Nat} {p : Nat} (hp : p ≤ sz) (m : Nat) (hm : m ≤ 9) : PMI E mX6_isDigit [.ref w, .int (nI 0), .int (nI m)] (MH E h w (kD D (p) (x) (g))) (bI (kdg L sz m p).isSome) (MH E h w (kD D (kdp L sz m p) (zI (kat L sz p) - nI 48) (g))) := by
  refine pm_of [some (.ref w), some (.int (nI 0)), some (.int (nI m))] (by decide +kernel) (Nat.le_of_ble_eq_true rfl) rfl ?_
  refine px_aload_n dX6_isDigit_0 rfl ?_
  refine px_aload_n dX6_isDigit_1 rfl ?_
  refine px_vi (M2 := mX6_peek) (c_X6_peek hK hp) mw_X6_peek wm_X6_peek we_X6_peek (Or.inl ml_X6_79) dX6_isDigit_2 (MH_obj) rfl (by decide) rfl rfl (Nat.le_of_ble_eq_true rfl) ⟨rfl, rfl⟩ ?_
  refine px_bipush (v := nI 48) dX6_isDigit_5 (by decide) ?_
  refine px_isub dX6_isDigit_7 ?_
  refine px_pNu dX6_isDigit_8 (Or.inl fl_X6_83) (px_heap (h2 := (MH E h w (kD D (kskip L sz (p)) (zI (kat L sz p) - nI 48) (g)))) rfl ?_)
  refine px_aload_n dX6_isDigit_11 rfl ?_
  refine px_get xk_X6 6 dX6_isDigit_12 (Or.inl fl_X6_83) MH_obj (by decide) rfl (px_topi (show _ = zI (kat L sz p) - nI 48 from rfl) ?_)
  refine px_iload_n dX6_isDigit_15 rfl ?_
  refine px_iload_n dX6_isDigit_16 rfl ?_
  refine px_si (c_X6_in (zI (kat L sz p) - nI 48) (nI 0) (nI m)) mw_X6_in wt_X6_in (Or.inl ml_X6_38) dX6_isDigit_17 (by decide) rfl rfl (Nat.le_of_ble_eq_true rfl) ⟨rfl, rfl⟩ ?_
  refine px_topi (congrArg bI (kdg_in hK hm)) ?_
  refine px_if_neB 25 dX6_isDigit_20 (by decide) (fun c20 => ?_) (fun c20 => ?_)
  · refine px_aload_n dX6_isDigit_25 rfl ?_
    refine px_dup dX6_isDigit_26 rfl ?_
    refine px_get xk_X6 5 dX6_isDigit_27 (Or.inl fl_X6_76) MH_obj (by decide) rfl (px_topi (show _ = nI (kskip L sz (p)) from rfl) ?_)
    refine px_iconst (v := nI 1) dX6_isDigit_30 (by decide) ?_
    refine px_iaddN dX6_isDigit_31 ?_
    refine px_pPo dX6_isDigit_32 (Or.inl fl_X6_76) (px_heap (h2 := (MH E h w (kD D (kskip L sz (p) + 1) (zI (kat L sz p) - nI 48) (g)))) rfl ?_)
    refine px_iconst (v := nI 1) dX6_isDigit_35 (by decide) ?_
    exact px_bret (b := (kdg L sz m p).isSome) dX6_isDigit_36 rfl rfl rfl (by rw [c20]; rfl) ⟨rfl, by rw [kdp_y c20]⟩
  · refine px_iconst (v := nI 0) dX6_isDigit_23 (by decide) ?_
    exact px_bret (b := (kdg L sz m p).isSome) dX6_isDigit_24 rfl rfl rfl (by rw [c20]; rfl) ⟨rfl, by rw [kdp_n c20]⟩
set_option maxHeartbeats 4000000 in
set_option maxRecDepth 100000 in
theorem c_X6_isNumber {E : xE} {h : xHp} {w : Nat} {D : xMd} {L : Nat → Nat} {sz : Nat} (hK : KT D L sz) {x : Int32} {g : Nat → Nat} {p : Nat} (hp : p ≤ sz) : PMet E mX6_isNumber [.ref w] (MH E h w (kD D (p) (x) (g))) (fun v h1 => v = some (.int (bI (rok L sz p))) ∧ ∃ x', (∀ u, knm L sz p = some u → x' = nI u) ∧ h1 = (MH E h w (kD D (knp L sz p) (x') (g)))) := by
  refine pm_of [some (.ref w), none] (by decide +kernel) (Nat.le_of_ble_eq_true rfl) rfl ?_
  refine px_aload_n dX6_isNumber_0 rfl ?_
  refine px_iconst (v := nI 0) dX6_isNumber_1 (by decide) ?_
  refine px_bipush (v := nI 9) dX6_isNumber_2 (by decide) ?_
  refine px_vi (M2 := mX6_isDigit) (c_X6_isDigit hK hp 9 (by decide)) mw_X6_isDigit wm_X6_isDigit we_X6_isDigit (Or.inl ml_X6_86) dX6_isNumber_4 (MH_obj) rfl (by decide) rfl rfl (Nat.le_of_ble_eq_true rfl) ⟨rfl, rfl⟩ ?_
  rcases hd : kdg L sz 9 (p) with _ | a
  · refine px_topi (show bI (none : Option Nat).isSome = nI 0 from rfl) ?_
    refine px_if_ne 12 dX6_isNumber_7 (by decide) (fun z => absurd z (by decide)) (fun _ => ?_)
    refine px_iconst (v := nI 0) dX6_isNumber_10 (by decide) ?_
    exact px_bret (b := rok L sz p) dX6_isNumber_11 rfl rfl rfl (by unfold rok; rw [(kn0 hd).1]; rfl) ⟨rfl, _, (fun u hu => by rw [(kn0 hd).1] at hu; cases hu), (by rw [(kn0 hd).2])⟩
  · have hdb := kdg_b hd
    have hdn := kdg_num hK hd
    refine px_heap (h2 := (MH E h w (kD D (kdp L sz 9 (p)) (nI a) (g)))) (by rw [hdn]) ?_
    refine px_topi (show bI (some a).isSome = nI 1 from rfl) ?_
    refine px_if_ne 12 dX6_isNumber_7 (by decide) (fun _ => ?_) (fun z => absurd z (by decide))
    refine px_aload_n dX6_isNumber_12 rfl ?_
    refine px_get xk_X6 6 dX6_isNumber_13 (Or.inl fl_X6_83) MH_obj (by decide) rfl (px_topi (show _ = nI a from rfl) ?_)
    refine px_istn_1 dX6_isNumber_16 (by decide) rfl ?_
    have hq := kdp_b (L := L) (m := 9) hp
    refine px_aload_n dX6_isNumber_17 rfl ?_
    refine px_get xk_X6 5 dX6_isNumber_18 (Or.inl fl_X6_76) MH_obj (by decide) rfl (px_topi (show _ = nI (kdp L sz 9 (p)) from rfl) ?_)
    refine px_aload_n dX6_isNumber_21 rfl ?_
    refine px_get xk_X6 3 dX6_isNumber_22 (Or.inl fl_X6_72) MH_obj (by decide) rfl (px_topi (show _ = nI sz from congrArg nI hK.1) ?_)
    refine px_icmp_geN 75 dX6_isNumber_25 (by decide) (by first | omega | (have := hK.2.1; omega)) (by first | omega | (have := hK.2.1; omega)) (fun c25 => ?_) (fun c25 => ?_)
    · obtain ⟨e1, e2⟩ := knA hd c25
      refine px_aload_n dX6_isNumber_75 rfl ?_
      refine px_iload_n dX6_isNumber_76 rfl ?_
      refine px_pNu dX6_isNumber_77 (Or.inl fl_X6_83) (px_heap (h2 := (MH E h w (kD D (kdp L sz 9 (p)) (nI (a)) (g)))) rfl ?_)
      refine px_aload_n dX6_isNumber_80 rfl ?_
      refine px_get xk_X6 5 dX6_isNumber_81 (Or.inl fl_X6_76) MH_obj (by decide) rfl (px_topi (show _ = nI (kdp L sz 9 (p)) from rfl) ?_)
      refine px_aload_n dX6_isNumber_84 rfl ?_
      refine px_get xk_X6 3 dX6_isNumber_85 (Or.inl fl_X6_72) MH_obj (by decide) rfl (px_topi (show _ = nI sz from congrArg nI hK.1) ?_)
      refine px_icmp_eqN 110 dX6_isNumber_88 (by decide) (by first | omega | (have := hK.2.1; omega)) (by first | omega | (have := hK.2.1; omega)) (fun c88 => ?_) (fun c88 => ?_)
      · refine px_iconst (v := nI 1) dX6_isNumber_110 (by decide) ?_
        refine px_goto 115 dX6_isNumber_111 (by decide) ?_
        have hg : dig L sz (kdp L sz 9 (p)) = false := decide_eq_false (by omega)
        exact px_bret (b := rok L sz p) dX6_isNumber_115 rfl rfl rfl (by unfold rok; rw [e1, e2, hg]; rfl) ⟨rfl, _, (fun u hu => by rw [e1] at hu; cases hu; rfl), (by rw [e2])⟩
      · omega
    · refine px_aload_n dX6_isNumber_28 rfl ?_
      refine px_get xk_X6 4 dX6_isNumber_29 (Or.inl fl_X6_20) MH_obj (by decide) rfl ?_
      refine px_aload_n dX6_isNumber_32 rfl ?_
      refine px_get xk_X6 5 dX6_isNumber_33 (Or.inl fl_X6_76) MH_obj (by decide) rfl (px_topi (show _ = nI (kdp L sz 9 (p)) from rfl) ?_)
      refine px_tpL dX6_isNumber_36 (by have := hK.2.1; omega) (hK.2.2.2 (kdp L sz 9 (p)) (by omega)).1 ?_
      refine px_bipush (v := nI 48) dX6_isNumber_37 (by decide) ?_
      refine px_bipush (v := nI 57) dX6_isNumber_39 (by decide) ?_
      refine px_si (c_X6_in (nI (L (kdp L sz 9 (p)))) (nI 48) (nI 57)) mw_X6_in wt_X6_in (Or.inl ml_X6_38) dX6_isNumber_41 (by decide) rfl rfl (Nat.le_of_ble_eq_true rfl) ⟨rfl, rfl⟩ ?_
      refine px_topi (congrArg bI (in_dig (hK.2.2.1 _))) ?_
      refine px_if_eqB 75 dX6_isNumber_44 (by decide) (fun c44 => ?_) (fun c44 => ?_)
      · obtain ⟨e1, e2⟩ := knB hd c25 (of_decide_eq_false c44)
        refine px_aload_n dX6_isNumber_75 rfl ?_
        refine px_iload_n dX6_isNumber_76 rfl ?_
        refine px_pNu dX6_isNumber_77 (Or.inl fl_X6_83) (px_heap (h2 := (MH E h w (kD D (kdp L sz 9 (p)) (nI (a)) (g)))) rfl ?_)
        refine px_aload_n dX6_isNumber_80 rfl ?_
        refine px_get xk_X6 5 dX6_isNumber_81 (Or.inl fl_X6_76) MH_obj (by decide) rfl (px_topi (show _ = nI (kdp L sz 9 (p)) from rfl) ?_)
        refine px_aload_n dX6_isNumber_84 rfl ?_
        refine px_get xk_X6 3 dX6_isNumber_85 (Or.inl fl_X6_72) MH_obj (by decide) rfl (px_topi (show _ = nI sz from congrArg nI hK.1) ?_)
        refine px_icmp_eqN 110 dX6_isNumber_88 (by decide) (by first | omega | (have := hK.2.1; omega)) (by first | omega | (have := hK.2.1; omega)) (fun c88 => ?_) (fun c88 => ?_)
        · refine px_iconst (v := nI 1) dX6_isNumber_110 (by decide) ?_
          refine px_goto 115 dX6_isNumber_111 (by decide) ?_
          have hg : dig L sz (kdp L sz 9 (p)) = false := decide_eq_false (by omega)
          exact px_bret (b := rok L sz p) dX6_isNumber_115 rfl rfl rfl (by unfold rok; rw [e1, e2, hg]; rfl) ⟨rfl, _, (fun u hu => by rw [e1] at hu; cases hu; rfl), (by rw [e2])⟩
        · refine px_aload_n dX6_isNumber_91 rfl ?_
          refine px_get xk_X6 4 dX6_isNumber_92 (Or.inl fl_X6_20) MH_obj (by decide) rfl ?_
          refine px_aload_n dX6_isNumber_95 rfl ?_
          refine px_get xk_X6 5 dX6_isNumber_96 (Or.inl fl_X6_76) MH_obj (by decide) rfl (px_topi (show _ = nI (kdp L sz 9 (p)) from rfl) ?_)
          have hlt : kdp L sz 9 (p) < sz := by omega
          refine px_tpL dX6_isNumber_99 (by have := hK.2.1; omega) (hK.2.2.2 (kdp L sz 9 (p)) hlt).1 ?_
          refine px_bipush (v := nI 48) dX6_isNumber_100 (by decide) ?_
          refine px_bipush (v := nI 57) dX6_isNumber_102 (by decide) ?_
          refine px_si (c_X6_in (nI (L (kdp L sz 9 (p)))) (nI 48) (nI 57)) mw_X6_in wt_X6_in (Or.inl ml_X6_38) dX6_isNumber_104 (by decide) rfl rfl (Nat.le_of_ble_eq_true rfl) ⟨rfl, rfl⟩ ?_
          refine px_topi (congrArg bI (in_dig (hK.2.2.1 _))) ?_
          refine px_if_neB 114 dX6_isNumber_107 (by decide) (fun c107 => ?_) (fun c107 => ?_)
          · refine px_iconst (v := nI 0) dX6_isNumber_114 (by decide) ?_
            have hg : dig L sz (kdp L sz 9 (p)) = true := decide_eq_true ⟨hlt, of_decide_eq_true c107⟩
            exact px_bret (b := rok L sz p) dX6_isNumber_115 rfl rfl rfl (by unfold rok; rw [e1, e2, hg]; rfl) ⟨rfl, _, (fun u hu => by rw [e1] at hu; cases hu; rfl), (by rw [e2])⟩
          · refine px_iconst (v := nI 1) dX6_isNumber_110 (by decide) ?_
            refine px_goto 115 dX6_isNumber_111 (by decide) ?_
            have hg : dig L sz (kdp L sz 9 (p)) = false := decide_eq_false (fun q => of_decide_eq_false c107 q.2)
            exact px_bret (b := rok L sz p) dX6_isNumber_115 rfl rfl rfl (by unfold rok; rw [e1, e2, hg]; rfl) ⟨rfl, _, (fun u hu => by rw [e1] at hu; cases hu; rfl), (by rw [e2])⟩
      · have hdg := of_decide_eq_true c44
        refine px_bipush (v := nI 10) dX6_isNumber_47 (by decide) ?_
        refine px_iload_n dX6_isNumber_49 rfl ?_
        refine px_imulN dX6_isNumber_50 ?_
        refine px_aload_n dX6_isNumber_51 rfl ?_
        refine px_get xk_X6 4 dX6_isNumber_52 (Or.inl fl_X6_20) MH_obj (by decide) rfl ?_
        refine px_aload_n dX6_isNumber_55 rfl ?_
        refine px_get xk_X6 5 dX6_isNumber_56 (Or.inl fl_X6_76) MH_obj (by decide) rfl (px_topi (show _ = nI (kdp L sz 9 (p)) from rfl) ?_)
        refine px_tpL dX6_isNumber_59 (by have := hK.2.1; omega) (hK.2.2.2 (kdp L sz 9 (p)) (by omega)).1 ?_
        refine px_iaddN dX6_isNumber_60 ?_
        refine px_bipush (v := nI 48) dX6_isNumber_61 (by decide) ?_
        refine px_isubN dX6_isNumber_63 (by omega) ?_
        refine px_istn_1 dX6_isNumber_64 (by decide) rfl ?_
        refine px_aload_n dX6_isNumber_65 rfl ?_
        refine px_dup dX6_isNumber_66 rfl ?_
        refine px_get xk_X6 5 dX6_isNumber_67 (Or.inl fl_X6_76) MH_obj (by decide) rfl (px_topi (show _ = nI (kdp L sz 9 (p)) from rfl) ?_)
        refine px_iconst (v := nI 1) dX6_isNumber_70 (by decide) ?_
        refine px_iaddN dX6_isNumber_71 ?_
        refine px_pPo dX6_isNumber_72 (Or.inl fl_X6_76) (px_heap (h2 := (MH E h w (kD D (kdp L sz 9 (p) + 1) (nI a) (g)))) rfl ?_)
        obtain ⟨e1, e2⟩ := knC hd c25 hdg
        have hq2 : (kdp L sz 9 (p)) + 1 ≤ sz := by omega
        refine px_aload_n dX6_isNumber_75 rfl ?_
        refine px_iload_n dX6_isNumber_76 rfl ?_
        refine px_pNu dX6_isNumber_77 (Or.inl fl_X6_83) (px_heap (h2 := (MH E h w (kD D (kdp L sz 9 (p) + 1) (nI (10 * a + L (kdp L sz 9 (p)) - 48)) (g)))) rfl ?_)
        refine px_aload_n dX6_isNumber_80 rfl ?_
        refine px_get xk_X6 5 dX6_isNumber_81 (Or.inl fl_X6_76) MH_obj (by decide) rfl (px_topi (show _ = nI (kdp L sz 9 (p) + 1) from rfl) ?_)
        refine px_aload_n dX6_isNumber_84 rfl ?_
        refine px_get xk_X6 3 dX6_isNumber_85 (Or.inl fl_X6_72) MH_obj (by decide) rfl (px_topi (show _ = nI sz from congrArg nI hK.1) ?_)
        refine px_icmp_eqN 110 dX6_isNumber_88 (by decide) (by first | omega | (have := hK.2.1; omega)) (by first | omega | (have := hK.2.1; omega)) (fun c88 => ?_) (fun c88 => ?_)
        · refine px_iconst (v := nI 1) dX6_isNumber_110 (by decide) ?_
          refine px_goto 115 dX6_isNumber_111 (by decide) ?_
          have hg : dig L sz (kdp L sz 9 (p) + 1) = false := decide_eq_false (by omega)
          exact px_bret (b := rok L sz p) dX6_isNumber_115 rfl rfl rfl (by unfold rok; rw [e1, e2, hg]; rfl) ⟨rfl, _, (fun u hu => by rw [e1] at hu; cases hu; rfl), (by rw [e2])⟩
        · refine px_aload_n dX6_isNumber_91 rfl ?_
          refine px_get xk_X6 4 dX6_isNumber_92 (Or.inl fl_X6_20) MH_obj (by decide) rfl ?_
          refine px_aload_n dX6_isNumber_95 rfl ?_
          refine px_get xk_X6 5 dX6_isNumber_96 (Or.inl fl_X6_76) MH_obj (by decide) rfl (px_topi (show _ = nI (kdp L sz 9 (p) + 1) from rfl) ?_)
          have hlt : kdp L sz 9 (p) + 1 < sz := by omega
          refine px_tpL dX6_isNumber_99 (by have := hK.2.1; omega) (hK.2.2.2 (kdp L sz 9 (p) + 1) hlt).1 ?_
          refine px_bipush (v := nI 48) dX6_isNumber_100 (by decide) ?_
          refine px_bipush (v := nI 57) dX6_isNumber_102 (by decide) ?_
          refine px_si (c_X6_in (nI (L (kdp L sz 9 (p) + 1))) (nI 48) (nI 57)) mw_X6_in wt_X6_in (Or.inl ml_X6_38) dX6_isNumber_104 (by decide) rfl rfl (Nat.le_of_ble_eq_true rfl) ⟨rfl, rfl⟩ ?_
          refine px_topi (congrArg bI (in_dig (hK.2.2.1 _))) ?_
          refine px_if_neB 114 dX6_isNumber_107 (by decide) (fun c107 => ?_) (fun c107 => ?_)
          · refine px_iconst (v := nI 0) dX6_isNumber_114 (by decide) ?_
            have hg : dig L sz (kdp L sz 9 (p) + 1) = true := decide_eq_true ⟨hlt, of_decide_eq_true c107⟩
            exact px_bret (b := rok L sz p) dX6_isNumber_115 rfl rfl rfl (by unfold rok; rw [e1, e2, hg]; rfl) ⟨rfl, _, (fun u hu => by rw [e1] at hu; cases hu; rfl), (by rw [e2])⟩
          · refine px_iconst (v := nI 1) dX6_isNumber_110 (by decide) ?_
            refine px_goto 115 dX6_isNumber_111 (by decide) ?_
            have hg : dig L sz (kdp L sz 9 (p) + 1) = false := decide_eq_false (fun q => of_decide_eq_false c107 q.2)
            exact px_bret (b := rok L sz p) dX6_isNumber_115 rfl rfl rfl (by unfold rok; rw [e1, e2, hg]; rfl) ⟨rfl, _, (fun u hu => by rw [e1] at hu; cases hu; rfl), (by rw [e2])⟩
set_option maxHeartbeats 4000000 in
set_option maxRecDepth 100000 in
theorem c_X6_kindBy {E : xE} {h : xHp} (c : Nat) (hc : c ≤ 126) : PMI E mX6_kindBy [.int (nI c)] h (eI (kby c)) h := by
  refine pm_of [some (.int (nI c))] (by decide +kernel) (Nat.le_of_ble_eq_true rfl) rfl ?_
  refine px_iload_n dX6_kindBy_0 rfl ?_
  refine px_bipush (v := nI 112) dX6_kindBy_1 (by decide) ?_
  refine px_icmp_neN 10 dX6_kindBy_3 (by decide) (by omega) (by omega) (fun c3 => ?_) (fun c3 => ?_)
  · refine px_iload_n dX6_kindBy_10 rfl ?_
    refine px_bipush (v := nI 102) dX6_kindBy_11 (by decide) ?_
    refine px_icmp_neN 20 dX6_kindBy_13 (by decide) (by omega) (by omega) (fun c13 => ?_) (fun c13 => ?_)
    · refine px_iload_n dX6_kindBy_20 rfl ?_
      refine px_bipush (v := nI 99) dX6_kindBy_21 (by decide) ?_
      refine px_icmp_neN 30 dX6_kindBy_23 (by decide) (by omega) (by omega) (fun c23 => ?_) (fun c23 => ?_)
      · refine px_iload_n dX6_kindBy_30 rfl ?_
        refine px_bipush (v := nI 100) dX6_kindBy_31 (by decide) ?_
        refine px_icmp_neN 40 dX6_kindBy_33 (by decide) (by omega) (by omega) (fun c33 => ?_) (fun c33 => ?_)
        · refine px_iload_n dX6_kindBy_40 rfl ?_
          refine px_bipush (v := nI 114) dX6_kindBy_41 (by decide) ?_
          refine px_icmp_neN 50 dX6_kindBy_43 (by decide) (by omega) (by omega) (fun c43 => ?_) (fun c43 => ?_)
          · refine px_iconst (v := -1) dX6_kindBy_50 (by decide) ?_
            exact px_iret dX6_kindBy_51 rfl rfl rfl ⟨(by unfold kby; rw [if_neg c3, if_neg c13, if_neg c23, if_neg c33, if_neg c43]; rfl), rfl⟩
          · refine px_iconst (v := nI 4) dX6_kindBy_46 (by decide) ?_
            refine px_goto 51 dX6_kindBy_47 (by decide) ?_
            exact px_iret dX6_kindBy_51 rfl rfl rfl ⟨(by unfold kby; rw [if_neg c3, if_neg c13, if_neg c23, if_neg c33, if_pos c43]; rfl), rfl⟩
        · refine px_iconst (v := nI 3) dX6_kindBy_36 (by decide) ?_
          refine px_goto 51 dX6_kindBy_37 (by decide) ?_
          exact px_iret dX6_kindBy_51 rfl rfl rfl ⟨(by unfold kby; rw [if_neg c3, if_neg c13, if_neg c23, if_pos c33]; rfl), rfl⟩
      · refine px_iconst (v := nI 2) dX6_kindBy_26 (by decide) ?_
        refine px_goto 51 dX6_kindBy_27 (by decide) ?_
        exact px_iret dX6_kindBy_51 rfl rfl rfl ⟨(by unfold kby; rw [if_neg c3, if_neg c13, if_pos c23]; rfl), rfl⟩
    · refine px_iconst (v := nI 1) dX6_kindBy_16 (by decide) ?_
      refine px_goto 51 dX6_kindBy_17 (by decide) ?_
      exact px_iret dX6_kindBy_51 rfl rfl rfl ⟨(by unfold kby; rw [if_neg c3, if_pos c13]; rfl), rfl⟩
  · refine px_iconst (v := nI 0) dX6_kindBy_6 (by decide) ?_
    refine px_goto 51 dX6_kindBy_7 (by decide) ?_
    exact px_iret dX6_kindBy_51 rfl rfl rfl ⟨(by unfold kby; rw [if_pos c3]; rfl), rfl⟩
theorem c_kindZ {E : xE} {h : xHp} {D : xMd} {L : Nat → Nat} {sz p : Nat} (hK : KT D L sz) : PMI E mX6_kindBy [.int (zI (kat L sz p))] h (eI (kin L sz p)) h := by
  obtain ⟨c, h1, h2, h3⟩ := kin_z (p := p) hK
  rw [h2, h3]
  exact c_X6_kindBy c h1
def OneP (L : Nat → Nat) (sz : Nat) (T : xT) (p dr : Nat) (b : Bool) (q : Nat) (g' : Nat → Nat) : Prop := (b = true ∧ ∃ T2, kapp L sz T p = (some T2, q) ∧ Rep g' (tSS T2 6 dr) ∧ T2.2 4 = T.2 4) ∨ (b = false ∧ (kapp L sz T p = (none, q) ∨ ∃ T2, kapp L sz T p = (some T2, q) ∧ dig L sz q = true))
theorem kin_lt {L : Nat → Nat} {sz p k : Nat} (h : kin L sz p = some k) : kskip L sz p < sz := by
  unfold kin at h
  cases hk : kat L sz p with
  | none => rw [hk] at h; cases h
  | some c => exact (kat_lt hk).1
set_option maxHeartbeats 4000000 in
set_option maxRecDepth 100000 in
theorem c_X6_isOneItem {E : xE} {h : xHp} {w : Nat} {D : xMd} {L : Nat → Nat} {sz : Nat} (hK : KT D L sz) {x : Int32} {g : Nat → Nat} {p : Nat} (hp : p ≤ sz) {T : xT} {dr : Nat} (R : Rep g (tSS T 6 dr)) (hOK : tOK T) (hdr : dr < 2 ^ 31) (h6 : T.2 0 < 6) : PMet E mX6_isOneItem [.ref w] (MH E h w (kD D (p) (x) (g))) (fun v h1 => ∃ (b : Bool) (q : Nat) (x' : Int32) (g' : Nat → Nat), v = some (.int (bI b)) ∧ OneP L sz T p dr b q g' ∧ q ≤ sz ∧ g' 39 = g 39 ∧ h1 = MH E h w (kD D q x' g')) := by
  refine pm_of [some (.ref w), none, none, none] (by decide +kernel) (Nat.le_of_ble_eq_true rfl) rfl ?_
  refine px_aload_n dX6_isOneItem_0 rfl ?_
  refine px_vi (M2 := mX6_peek) (c_X6_peek hK hp) mw_X6_peek wm_X6_peek we_X6_peek (Or.inl ml_X6_79) dX6_isOneItem_1 (MH_obj) rfl (by decide) rfl rfl (Nat.le_of_ble_eq_true rfl) ⟨rfl, rfl⟩ ?_
  refine px_si (c_kindZ (p := p) hK) mw_X6_kindBy wt_X6_kindBy (Or.inl ml_X6_89) dX6_isOneItem_4 (by decide) rfl rfl (Nat.le_of_ble_eq_true rfl) ⟨rfl, rfl⟩ ?_
  rcases hk : kin L sz p with _ | kd
  · refine px_topi (show eI none = -1 from rfl) ?_
    refine px_istn_1 dX6_isOneItem_7 (by decide) rfl ?_
    refine px_iload_n dX6_isOneItem_8 rfl ?_
    refine px_if_ge 14 dX6_isOneItem_9 (by decide) (fun z => absurd z (by decide)) (fun _ => ?_)
    refine px_iconst (v := nI 0) dX6_isOneItem_12 (by decide) ?_
    exact px_bret (b := false) dX6_isOneItem_13 rfl rfl rfl rfl ⟨false, _, _, _, rfl, Or.inr ⟨rfl, Or.inl (by unfold kapp; rw [hk])⟩, (kskip_b hp).2, rfl, rfl⟩
  · have hkd := kin_le hK hk
    refine px_topi (show eI (some kd) = nI kd from rfl) ?_
    refine px_istn_1 dX6_isOneItem_7 (by decide) rfl ?_
    have hq1 : kskip L sz (p) + 1 ≤ sz := by have h0 : kskip L sz (p) < sz := kin_lt hk; omega
    refine px_iload_n dX6_isOneItem_8 rfl ?_
    refine px_if_geN 14 dX6_isOneItem_9 (by decide) (by first | omega | (have := hK.2.1; omega)) ?_
    refine px_aload_n dX6_isOneItem_14 rfl ?_
    refine px_dup dX6_isOneItem_15 rfl ?_
    refine px_get xk_X6 5 dX6_isOneItem_16 (Or.inl fl_X6_76) MH_obj (by decide) rfl (px_topi (show _ = nI (kskip L sz (p)) from rfl) ?_)
    refine px_iconst (v := nI 1) dX6_isOneItem_19 (by decide) ?_
    refine px_iaddN dX6_isOneItem_20 ?_
    refine px_pPo dX6_isOneItem_21 (Or.inl fl_X6_76) (px_heap (h2 := (MH E h w (kD D (kskip L sz (p) + 1) (x) (g)))) rfl ?_)
    refine px_aload_n dX6_isOneItem_24 rfl ?_
    refine px_iconst (v := nI 0) dX6_isOneItem_25 (by decide) ?_
    refine px_iconst (v := nI 3) dX6_isOneItem_26 (by decide) ?_
    refine px_vi (M2 := mX6_isDigit) (c_X6_isDigit hK hq1 3 (by decide)) mw_X6_isDigit wm_X6_isDigit we_X6_isDigit (Or.inl ml_X6_86) dX6_isOneItem_27 (MH_obj) rfl (by decide) rfl rfl (Nat.le_of_ble_eq_true rfl) ⟨rfl, rfl⟩ ?_
    rcases hs : kdg L sz 3 (kskip L sz (p) + 1) with _ | s
    · refine px_topi (show bI (none : Option Nat).isSome = nI 0 from rfl) ?_
      refine px_if_ne 35 dX6_isOneItem_30 (by decide) (fun z => absurd z (by decide)) (fun _ => ?_)
      refine px_iconst (v := nI 0) dX6_isOneItem_33 (by decide) ?_
      exact px_bret (b := false) dX6_isOneItem_34 rfl rfl rfl rfl ⟨false, _, _, _, rfl, Or.inr ⟨rfl, Or.inl (by simp only [kapp, hk, hs])⟩, (kdp_b hq1), rfl, rfl⟩
    · have hsb := kdg_b hs
      have hsn := kdg_num hK hs
      refine px_heap (h2 := (MH E h w (kD D (kdp L sz 3 (kskip L sz (p) + 1)) (nI s) (g)))) (by rw [hsn]) ?_
      refine px_topi (show bI (some s).isSome = nI 1 from rfl) ?_
      refine px_if_ne 35 dX6_isOneItem_30 (by decide) (fun _ => ?_) (fun z => absurd z (by decide))
      have hq2 : kdp L sz 3 (kskip L sz (p) + 1) ≤ sz := kdp_b hq1
      refine px_aload_n dX6_isOneItem_35 rfl ?_
      refine px_get xk_X6 6 dX6_isOneItem_36 (Or.inl fl_X6_83) MH_obj (by decide) rfl (px_topi (show _ = nI s from rfl) ?_)
      refine px_istn_2 dX6_isOneItem_39 (by decide) rfl ?_
      refine px_aload_n dX6_isOneItem_40 rfl ?_
      refine px_iconst (v := nI 0) dX6_isOneItem_41 (by decide) ?_
      refine px_bipush (v := nI 9) dX6_isOneItem_42 (by decide) ?_
      refine px_vi (M2 := mX6_isDigit) (c_X6_isDigit hK hq2 9 (by decide)) mw_X6_isDigit wm_X6_isDigit we_X6_isDigit (Or.inl ml_X6_86) dX6_isOneItem_44 (MH_obj) rfl (by decide) rfl rfl (Nat.le_of_ble_eq_true rfl) ⟨rfl, rfl⟩ ?_
      rcases hc : kdg L sz 9 (kdp L sz 3 (kskip L sz (p) + 1)) with _ | cf
      · refine px_topi (show bI (none : Option Nat).isSome = nI 0 from rfl) ?_
        refine px_if_ne 52 dX6_isOneItem_47 (by decide) (fun z => absurd z (by decide)) (fun _ => ?_)
        refine px_iconst (v := nI 0) dX6_isOneItem_50 (by decide) ?_
        exact px_bret (b := false) dX6_isOneItem_51 rfl rfl rfl rfl ⟨false, _, _, _, rfl, Or.inr ⟨rfl, Or.inl (by simp only [kapp, hk, hs, hc])⟩, (kdp_b hq2), rfl, rfl⟩
      · have hcb := kdg_b hc
        have hcn := kdg_num hK hc
        refine px_heap (h2 := (MH E h w (kD D (kdp L sz 9 (kdp L sz 3 (kskip L sz (p) + 1))) (nI cf) (g)))) (by rw [hcn]) ?_
        refine px_topi (show bI (some cf).isSome = nI 1 from rfl) ?_
        refine px_if_ne 52 dX6_isOneItem_47 (by decide) (fun _ => ?_) (fun z => absurd z (by decide))
        have hq3 : kdp L sz 9 (kdp L sz 3 (kskip L sz (p) + 1)) ≤ sz := kdp_b hq2
        refine px_aload_n dX6_isOneItem_52 rfl ?_
        refine px_get xk_X6 9 dX6_isOneItem_53 (Or.inl fl_X6_29) MH_obj (by decide) rfl ?_
        refine px_iload_n dX6_isOneItem_56 rfl ?_
        refine px_iload_n dX6_isOneItem_57 rfl ?_
        refine px_aload_n dX6_isOneItem_58 rfl ?_
        refine px_get xk_X6 6 dX6_isOneItem_59 (Or.inl fl_X6_83) MH_obj (by decide) rfl (px_topi (show _ = nI cf from rfl) ?_)
        refine px_callS (M2 := mX6_addOne) (c_addR R hOK hdr h6 kd s cf) mw_X6_addOne wt_X6_addOne (Or.inl ml_X6_42) dX6_isOneItem_62 (by decide) rfl rfl (Nat.le_of_ble_eq_true rfl) ⟨Nat.zero_le _, Nat.zero_le _⟩ (fun v h2 hq => ?_)
        obtain ⟨rfl, g1, R1, h39, rfl⟩ := hq
        have hX := taddA_s (T := T) (k := kd) (s := s) (c := cf)
        have hX0 := add_0 (T := T) (k := kd) (s := s) (c := cf)
        have hXO := taddA_ok (k := kd) (s := s) (c := cf) hOK h6 hkd hsb.1 hcb.1
        refine px_istn_3 dX6_isOneItem_65 (by decide) rfl ?_
        refine px_aload_n dX6_isOneItem_66 rfl ?_
        refine px_bipush (v := nI 61) dX6_isOneItem_67 (by decide) ?_
        refine px_vi (M2 := mX6_isSign) (c_X6_isSign hK hq3 61 (by decide)) mw_X6_isSign wm_X6_isSign we_X6_isSign (Or.inl ml_X6_92) dX6_isOneItem_69 (MH_obj) rfl (by decide) rfl rfl (Nat.le_of_ble_eq_true rfl) ⟨rfl, rfl⟩ ?_
        rcases he : ktk L sz 61 (kdp L sz 9 (kdp L sz 3 (kskip L sz (p) + 1))) with _ | _
        · refine px_topi (show bI false = nI 0 from rfl) ?_
          refine px_if_eq 96 dX6_isOneItem_72 (by decide) (fun _ => ?_) (fun z => absurd z (by decide))
          have hq4 : ktp L sz 61 (kdp L sz 9 (kdp L sz 3 (kskip L sz (p) + 1))) ≤ sz := ktp_b hq3
          refine px_aload_n dX6_isOneItem_96 rfl ?_
          refine px_bipush (v := nI 120) dX6_isOneItem_97 (by decide) ?_
          refine px_vi (M2 := mX6_isSign) (c_X6_isSign hK (by first | exact hq4 | exact knp_b hq4) 120 (by decide)) mw_X6_isSign wm_X6_isSign we_X6_isSign (Or.inl ml_X6_92) dX6_isOneItem_99 (MH_obj) rfl (by decide) rfl rfl (Nat.le_of_ble_eq_true rfl) ⟨rfl, rfl⟩ ?_
          rcases hx : ktk L sz 120 (ktp L sz 61 (kdp L sz 9 (kdp L sz 3 (kskip L sz (p) + 1)))) with _ | _
          · refine px_topi (show bI false = nI 0 from rfl) ?_
            refine px_if_eq 125 dX6_isOneItem_102 (by decide) (fun _ => ?_) (fun z => absurd z (by decide))
            refine px_iconst (v := nI 1) dX6_isOneItem_125 (by decide) ?_
            have R2 := one_z R1 (by rw [hX.1]; omega) (by rw [hX.2]; exact hOK.1.2.1) (by rw [hX.1]; omega) hX0.1
            have R3 := one_y (X := tSA (taddA T kd s cf) 2 (T.2 0) 0) R2 (by show (taddA T kd s cf).2 0 ≤ 6; rw [hX.1]; omega) (by show (taddA T kd s cf).2 1 ≤ 4; rw [hX.2]; exact hOK.1.2.1) (by show (taddA T kd s cf).2 2 ||| 2 ^ T.2 0 = (taddA T kd s cf).2 2; rw [hX0.2.1, or_or_self])
            exact px_bret (b := true) dX6_isOneItem_126 rfl rfl rfl rfl ⟨true, _, _, _, rfl, Or.inl ⟨rfl, _, (by simp only [kapp, hk, hs, hc, he, Bool.false_eq_true, if_false, kfin, hx, Bool.not_true, Bool.not_false]), R3, hX0.2.2⟩, (ktp_b (by first | exact hq4 | exact knp_b hq4)), h39, rfl⟩
          · refine px_topi (show bI true = nI 1 from rfl) ?_
            refine px_if_eq 125 dX6_isOneItem_102 (by decide) (fun z => absurd z (by decide)) (fun _ => ?_)
            refine px_aload_n dX6_isOneItem_105 rfl ?_
            refine px_get xk_X6 9 dX6_isOneItem_106 (Or.inl fl_X6_29) MH_obj (by decide) rfl ?_
            refine px_bipush (v := nI 20) dX6_isOneItem_109 (by decide) ?_
            refine px_aload_n dX6_isOneItem_111 rfl ?_
            refine px_get xk_X6 9 dX6_isOneItem_112 (Or.inl fl_X6_29) MH_obj (by decide) rfl ?_
            refine px_bipush (v := nI 20) dX6_isOneItem_115 (by decide) ?_
            refine px_bL (b := 2) (sB_at _ _ _) dX6_isOneItem_117 (by decide) (by omega) (show _ = (taddA T kd s cf).2 2 from R1.sh (T := tSS (taddA T kd s cf) 6 dr)) ?_
            refine px_iconst (v := nI 1) dX6_isOneItem_118 (by decide) ?_
            refine px_iload_n dX6_isOneItem_119 rfl ?_
            refine px_ishl1 dX6_isOneItem_120 (by omega) ?_
            refine px_iconst (v := -1) dX6_isOneItem_121 (by decide) ?_
            refine px_ixor dX6_isOneItem_122 ?_
            refine px_iand dX6_isOneItem_123 (px_topi (nx_dif _ _) ?_)
            refine px_bWs (b := 2) dX6_isOneItem_124 (by decide) (by decide) ?_
            refine px_iconst (v := nI 1) dX6_isOneItem_125 (by decide) ?_
            have R2 := one_z R1 (by rw [hX.1]; omega) (by rw [hX.2]; exact hOK.1.2.1) (by rw [hX.1]; omega) hX0.1
            have R3 := one_x (a := T.2 0) (X := tSA (taddA T kd s cf) 2 (T.2 0) 0) R2 (by show (taddA T kd s cf).2 0 ≤ 6; rw [hX.1]; omega) (by show (taddA T kd s cf).2 1 ≤ 4; rw [hX.2]; exact hOK.1.2.1)
            exact px_bret (b := true) dX6_isOneItem_126 rfl rfl rfl rfl ⟨true, _, _, _, rfl, Or.inl ⟨rfl, _, (by simp only [kapp, hk, hs, hc, he, Bool.false_eq_true, if_false, kfin, hx, Bool.not_true, Bool.not_false]), R3, hX0.2.2⟩, (ktp_b (by first | exact hq4 | exact knp_b hq4)), (by rw [va_up_ne _ _ (by omega), h39]), rfl⟩
        · refine px_topi (show bI true = nI 1 from rfl) ?_
          refine px_if_eq 96 dX6_isOneItem_72 (by decide) (fun z => absurd z (by decide)) (fun _ => ?_)
          have hq4 : ktp L sz 61 (kdp L sz 9 (kdp L sz 3 (kskip L sz (p) + 1))) ≤ sz := ktp_b hq3
          refine px_aload_n dX6_isOneItem_75 rfl ?_
          refine px_callV (M2 := mX6_isNumber) (c_X6_isNumber hK hq4) mw_X6_isNumber wm_X6_isNumber we_X6_isNumber (Or.inl ml_X6_95) dX6_isOneItem_76 MH_obj rfl (by decide) rfl rfl (Nat.le_of_ble_eq_true rfl) ⟨Nat.zero_le _, Nat.zero_le _⟩ (fun v h2 hq => ?_)
          obtain ⟨rfl, x1, hx1, rfl⟩ := hq
          rcases hn : knm L sz (ktp L sz 61 (kdp L sz 9 (kdp L sz 3 (kskip L sz (p) + 1)))) with _ | d
          · refine px_topi (show bI (rok L sz (ktp L sz 61 (kdp L sz 9 (kdp L sz 3 (kskip L sz (p) + 1))))) = nI 0 by unfold rok; rw [hn]; rfl) ?_
            refine px_if_ne 84 dX6_isOneItem_79 (by decide) (fun z => absurd z (by decide)) (fun _ => ?_)
            refine px_iconst (v := nI 0) dX6_isOneItem_82 (by decide) ?_
            exact px_bret (b := false) dX6_isOneItem_83 rfl rfl rfl rfl ⟨false, _, _, _, rfl, Or.inr ⟨rfl, Or.inl (by simp only [kapp, hk, hs, hc, he, if_true, hn])⟩, (knp_b hq4), h39, rfl⟩
          · have hx2 := hx1 d hn
            have hdb := knm_b hn
            subst hx2
            rcases hg : dig L sz (knp L sz (ktp L sz 61 (kdp L sz 9 (kdp L sz 3 (kskip L sz (p) + 1))))) with _ | _
            · refine px_topi (show bI (rok L sz (ktp L sz 61 (kdp L sz 9 (kdp L sz 3 (kskip L sz (p) + 1))))) = nI 1 by unfold rok; rw [hn, hg]; rfl) ?_
              refine px_if_ne 84 dX6_isOneItem_79 (by decide) (fun _ => ?_) (fun z => absurd z (by decide))
              refine px_aload_n dX6_isOneItem_84 rfl ?_
              refine px_get xk_X6 9 dX6_isOneItem_85 (Or.inl fl_X6_29) MH_obj (by decide) rfl ?_
              refine px_iconst (v := nI 2) dX6_isOneItem_88 (by decide) ?_
              refine px_iload_n dX6_isOneItem_89 rfl ?_
              refine px_iaddN dX6_isOneItem_90 ?_
              refine px_aload_n dX6_isOneItem_91 rfl ?_
              refine px_get xk_X6 6 dX6_isOneItem_92 (Or.inl fl_X6_83) MH_obj (by decide) rfl (px_topi (show _ = nI d from rfl) ?_)
              refine px_bWs (b := 2) dX6_isOneItem_95 (by decide) (by omega) ?_
              refine px_aload_n dX6_isOneItem_96 rfl ?_
              refine px_bipush (v := nI 120) dX6_isOneItem_97 (by decide) ?_
              refine px_vi (M2 := mX6_isSign) (c_X6_isSign hK (by first | exact hq4 | exact knp_b hq4) 120 (by decide)) mw_X6_isSign wm_X6_isSign we_X6_isSign (Or.inl ml_X6_92) dX6_isOneItem_99 (MH_obj) rfl (by decide) rfl rfl (Nat.le_of_ble_eq_true rfl) ⟨rfl, rfl⟩ ?_
              rcases hx : ktk L sz 120 (knp L sz (ktp L sz 61 (kdp L sz 9 (kdp L sz 3 (kskip L sz (p) + 1))))) with _ | _
              · refine px_topi (show bI false = nI 0 from rfl) ?_
                refine px_if_eq 125 dX6_isOneItem_102 (by decide) (fun _ => ?_) (fun z => absurd z (by decide))
                refine px_iconst (v := nI 1) dX6_isOneItem_125 (by decide) ?_
                have R2 := one_d (d := d) R1 (by rw [hX.1]; omega) (by rw [hX.2]; exact hOK.1.2.1) h6
                have R3 := one_y (X := tSA (taddA T kd s cf) 2 (T.2 0) d) R2 (by show (taddA T kd s cf).2 0 ≤ 6; rw [hX.1]; omega) (by show (taddA T kd s cf).2 1 ≤ 4; rw [hX.2]; exact hOK.1.2.1) (by show (taddA T kd s cf).2 2 ||| 2 ^ T.2 0 = (taddA T kd s cf).2 2; rw [hX0.2.1, or_or_self])
                exact px_bret (b := true) dX6_isOneItem_126 rfl rfl rfl rfl ⟨true, _, _, _, rfl, Or.inl ⟨rfl, _, (by simp only [kapp, hk, hs, hc, he, if_true, hn, kfin, hx, Bool.not_true, Bool.not_false]), R3, hX0.2.2⟩, (ktp_b (by first | exact hq4 | exact knp_b hq4)), (by rw [va_up_ne _ _ (by omega), h39]), rfl⟩
              · refine px_topi (show bI true = nI 1 from rfl) ?_
                refine px_if_eq 125 dX6_isOneItem_102 (by decide) (fun z => absurd z (by decide)) (fun _ => ?_)
                refine px_aload_n dX6_isOneItem_105 rfl ?_
                refine px_get xk_X6 9 dX6_isOneItem_106 (Or.inl fl_X6_29) MH_obj (by decide) rfl ?_
                refine px_bipush (v := nI 20) dX6_isOneItem_109 (by decide) ?_
                refine px_aload_n dX6_isOneItem_111 rfl ?_
                refine px_get xk_X6 9 dX6_isOneItem_112 (Or.inl fl_X6_29) MH_obj (by decide) rfl ?_
                refine px_bipush (v := nI 20) dX6_isOneItem_115 (by decide) ?_
                refine px_bL (b := 2) (sB_at _ _ _) dX6_isOneItem_117 (by decide) (by omega) (show _ = (taddA T kd s cf).2 2 from (va_up_ne _ _ (by omega)).trans (R1.sh (T := tSS (taddA T kd s cf) 6 dr))) ?_
                refine px_iconst (v := nI 1) dX6_isOneItem_118 (by decide) ?_
                refine px_iload_n dX6_isOneItem_119 rfl ?_
                refine px_ishl1 dX6_isOneItem_120 (by omega) ?_
                refine px_iconst (v := -1) dX6_isOneItem_121 (by decide) ?_
                refine px_ixor dX6_isOneItem_122 ?_
                refine px_iand dX6_isOneItem_123 (px_topi (nx_dif _ _) ?_)
                refine px_bWs (b := 2) dX6_isOneItem_124 (by decide) (by decide) ?_
                refine px_iconst (v := nI 1) dX6_isOneItem_125 (by decide) ?_
                have R2 := one_d (d := d) R1 (by rw [hX.1]; omega) (by rw [hX.2]; exact hOK.1.2.1) h6
                have R3 := one_x (a := T.2 0) (X := tSA (taddA T kd s cf) 2 (T.2 0) d) R2 (by show (taddA T kd s cf).2 0 ≤ 6; rw [hX.1]; omega) (by show (taddA T kd s cf).2 1 ≤ 4; rw [hX.2]; exact hOK.1.2.1)
                exact px_bret (b := true) dX6_isOneItem_126 rfl rfl rfl rfl ⟨true, _, _, _, rfl, Or.inl ⟨rfl, _, (by simp only [kapp, hk, hs, hc, he, if_true, hn, kfin, hx, Bool.not_true, Bool.not_false]), R3, hX0.2.2⟩, (ktp_b (by first | exact hq4 | exact knp_b hq4)), (by rw [va_up_ne _ _ (by omega), va_up_ne _ _ (by omega), h39]), rfl⟩
            · refine px_topi (show bI (rok L sz (ktp L sz 61 (kdp L sz 9 (kdp L sz 3 (kskip L sz (p) + 1))))) = nI 0 by unfold rok; rw [hn, hg]; rfl) ?_
              refine px_if_ne 84 dX6_isOneItem_79 (by decide) (fun z => absurd z (by decide)) (fun _ => ?_)
              refine px_iconst (v := nI 0) dX6_isOneItem_82 (by decide) ?_
              exact px_bret (b := false) dX6_isOneItem_83 rfl rfl rfl rfl ⟨false, _, _, _, rfl, Or.inr ⟨rfl, Or.inr ⟨_, (by simp only [kapp, hk, hs, hc, he, if_true, hn, kfin, (dig_s hg (Or.inr (by decide : 57 < 120))).2]; rfl), hg⟩⟩, (knp_b hq4), h39, rfl⟩
