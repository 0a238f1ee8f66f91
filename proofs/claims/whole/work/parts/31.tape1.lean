/-! ===== Tape ===== -/
abbrev xK : Type := (Nat → Nat) × Nat × Nat
def khC (E : xE) (k : Nat) (K : xK) : Nat → Option va_E
  | 0 => some (.inr (3, [.ref (k + 1), .int (nI K.2.1), .int (nI K.2.2)]))
  | _ => some (.inl (E.1.2 2, 80, .inl (fun i => nI (K.1 i))))
abbrev KH (E : xE) (h : xHp) (k : Nat) (K : xK) : xHp := putB h k 2 (khC E k K)
section PXK
variable {E : xE} {M : xM} {Q : Option Value → xHp → Prop} {k n pc : Nat} {lo : List (Option Value)} {r : List Value} {h : xHp} {K : xK} {b : Nat}
theorem KH_obj : KH E h b K b = some (.inr (3, [.ref (b + 1), .int (nI K.2.1), .int (nI K.2.2)])) := putB_0 (by decide)
theorem KH_arr : KH E h b K (b + 1) = some (.inl (E.1.2 2, 80, .inl (fun i => nI (K.1 i)))) := putB_at (j := 1) (by decide)
theorem px_kR {idx : Nat} (hd : decode (xC M) pc = .ok (.getfield idx, 3)) (hl : xFL (xY M).cls idx (TX3 0).1 (TX3 0).2.1 (TX3 0).2.2.1) (kk : PW E M Q k n (pc + 3) lo (.ref (b + 1) :: r) (KH E h b K)) : PW E M Q k n pc lo (.ref b :: r) (KH E h b K) := px_get xk_X3 0 hd hl KH_obj (by decide) rfl kk
theorem px_kZ {idx : Nat} (hd : decode (xC M) pc = .ok (.getfield idx, 3)) (hl : xFL (xY M).cls idx (TX3 1).1 (TX3 1).2.1 (TX3 1).2.2.1) (kk : PW E M Q k n (pc + 3) lo (.int (nI K.2.1) :: r) (KH E h b K)) : PW E M Q k n pc lo (.ref b :: r) (KH E h b K) := px_get xk_X3 1 hd hl KH_obj (by decide) rfl kk
theorem px_kP {idx : Nat} (hd : decode (xC M) pc = .ok (.getfield idx, 3)) (hl : xFL (xY M).cls idx (TX3 2).1 (TX3 2).2.1 (TX3 2).2.2.1) (kk : PW E M Q k n (pc + 3) lo (.int (nI K.2.2) :: r) (KH E h b K)) : PW E M Q k n pc lo (.ref b :: r) (KH E h b K) := px_get xk_X3 2 hd hl KH_obj (by decide) rfl kk
theorem kh_up0 {u v : Nat} : va_up (KH E h b K) b (some (.inr (3, [.ref (b + 1), .int (nI u), .int (nI v)]))) = KH E h b (K.1, u, v) := by
  have e0 : va_up (KH E h b K) b (some (.inr (3, [.ref (b + 1), .int (nI u), .int (nI v)]))) = va_up (KH E h b K) (b + 0) (some (.inr (3, [.ref (b + 1), .int (nI u), .int (nI v)]))) := rfl
  rw [e0]
  unfold KH
  rw [putB_up (by omega)]
  refine putB_congr (fun q hq => ?_)
  match q, hq with
  | 0, _ => rw [va_up_self]; rfl
  | 1, _ => rw [va_up_ne _ _ (by omega)]; rfl
theorem px_kPZ {idx v : Nat} (hd : decode (xC M) pc = .ok (.putfield idx, 3)) (hl : xFL (xY M).cls idx (TX3 1).1 (TX3 1).2.1 (TX3 1).2.2.1) (kk : PW E M Q k n (pc + 3) lo r (KH E h b (K.1, v, K.2.2))) : PW E M Q k n pc lo (.int (nI v) :: .ref b :: r) (KH E h b K) := by
  refine px_put xk_X3 1 hd hl KH_obj (by decide) (by show 1 < 3; decide) rfl rfl rfl ?_
  exact px_heap kh_up0 kk
theorem px_kPP {idx v : Nat} (hd : decode (xC M) pc = .ok (.putfield idx, 3)) (hl : xFL (xY M).cls idx (TX3 2).1 (TX3 2).2.1 (TX3 2).2.2.1) (kk : PW E M Q k n (pc + 3) lo r (KH E h b (K.1, K.2.1, v))) : PW E M Q k n pc lo (.int (nI v) :: .ref b :: r) (KH E h b K) := by
  refine px_put xk_X3 2 hd hl KH_obj (by decide) (by show 2 < 3; decide) rfl rfl rfl ?_
  exact px_heap kh_up0 kk
theorem px_kL {i : Nat} (hd : decode (xC M) pc = .ok (.caload, 1)) (hi : i < 80) (kk : PW E M Q k n (pc + 1) lo (.int (nI (K.1 i)) :: r) (KH E h b K)) : PW E M Q k n pc lo (.int (nI i) :: .ref (b + 1) :: r) (KH E h b K) := by
  refine px_cald hd KH_arr (vp_in_nI hi (by decide)) ?_
  rw [nI_clamp (by omega)]
  exact kk
theorem nI_chr {c : Nat} (hc : c < 65536) : ((nI c).toUInt32 % 65536).toInt32 = nI c ∧ vp_nar .char (nI c) = nI c := by
  have h1 := pk_char (nI c)
  rw [pk_tn (by omega), Nat.mod_eq_of_lt hc] at h1
  refine ⟨h1, ?_⟩
  have h2 := pk_vc (nI c)
  rw [h1] at h2
  exact h2
theorem px_kW {i c : Nat} (hd : decode (xC M) pc = .ok (.castore, 1)) (hi : i < 80) (hc : c < 65536) (kk : PW E M Q k n (pc + 1) lo r (KH E h b (va_up K.1 i c, K.2))) : PW E M Q k n pc lo (.int (nI c) :: .int (nI i) :: .ref (b + 1) :: r) (KH E h b K) := by
  refine px_cast hd KH_arr (vp_in_nI hi (by decide)) ?_
  rw [nI_clamp (by omega), (nI_chr hc).2]
  refine px_heap ?_ kk
  unfold KH
  rw [putB_up (by omega)]
  refine putB_congr (fun q hq => ?_)
  match q, hq with
  | 0, _ => rw [va_up_ne _ _ (by omega)]; rfl
  | 1, _ =>
    rw [va_up_self]
    show some (Sum.inl (E.1.2 2, 80, Sum.inl (upd (fun i => nI (K.1 i)) i (nI c)))) = some (Sum.inl (E.1.2 2, 80, Sum.inl (fun i' => nI (va_up K.1 i c i'))))
    congr 5
    funext i'
    by_cases hq : i' = i
    · subst hq; simp [upd, va_up]
    · simp [upd, va_up, hq]
end PXK
def eI : Option Nat → Int32
  | none => -1
  | some c => nI c
def ksk (L : Nat → Nat) (sz : Nat) : Nat → Nat → Nat
  | 0, p => p
  | f + 1, p => if p < sz ∧ L p = 32 then ksk L sz f (p + 1) else p
/-- the place behind blanks -/
def kskip (L : Nat → Nat) (sz p : Nat) : Nat := ksk L sz (sz - p) p
theorem kskip_y {L : Nat → Nat} {sz p : Nat} (h1 : p < sz) (h2 : L p = 32) : kskip L sz p = kskip L sz (p + 1) := by
  unfold kskip
  rw [show sz - p = (sz - (p + 1)) + 1 by omega, ksk, if_pos ⟨h1, h2⟩]
theorem kskip_n {L : Nat → Nat} {sz p : Nat} (h : sz ≤ p ∨ L p ≠ 32) : kskip L sz p = p := by
  unfold kskip
  cases hs : sz - p with
  | zero => rw [ksk]
  | succ f => rw [ksk, if_neg (by omega)]
theorem ksk_b {L : Nat → Nat} {sz : Nat} : ∀ (f p : Nat), p ≤ sz → p ≤ ksk L sz f p ∧ ksk L sz f p ≤ sz
  | 0, p, h => by rw [ksk]; omega
  | f + 1, p, h => by
    rw [ksk]
    split
    · rename_i hc
      have := ksk_b (L := L) (sz := sz) f (p + 1) (by omega)
      omega
    · omega
theorem kskip_b {L : Nat → Nat} {sz p : Nat} (h : p ≤ sz) : p ≤ kskip L sz p ∧ kskip L sz p ≤ sz := ksk_b _ _ h
def kat (L : Nat → Nat) (sz p : Nat) : Option Nat := if kskip L sz p < sz then some (L (kskip L sz p)) else none
/-- a sign: whether it is there, and the place behind -/
def ktk (L : Nat → Nat) (sz c p : Nat) : Bool := decide (kat L sz p = some c)
def ktp (L : Nat → Nat) (sz c p : Nat) : Nat := if ktk L sz c p then kskip L sz p + 1 else kskip L sz p
def kdg (L : Nat → Nat) (sz m p : Nat) : Option Nat := match kat L sz p with
  | none => none
  | some c => if 48 ≤ c ∧ c - 48 ≤ m then some (c - 48) else none
def kdp (L : Nat → Nat) (sz m p : Nat) : Nat := match kdg L sz m p with
  | none => kskip L sz p
  | some _ => kskip L sz p + 1
def knm (L : Nat → Nat) (sz p : Nat) : Option Nat := match kdg L sz 9 p with
  | none => none
  | some a => if sz ≤ kdp L sz 9 p ∨ L (kdp L sz 9 p) = 32 then some a else match kdg L sz 9 (kdp L sz 9 p) with
    | none => some a
    | some b => some (10 * a + b)
def knp (L : Nat → Nat) (sz p : Nat) : Nat := match kdg L sz 9 p with
  | none => kdp L sz 9 p
  | some _ => if sz ≤ kdp L sz 9 p ∨ L (kdp L sz 9 p) = 32 then kdp L sz 9 p else kdp L sz 9 (kdp L sz 9 p)
def kOK (K : xK) : Prop := K.2.1 ≤ 80 ∧ ∀ i, K.1 i ≤ 126
theorem kat_lt {L : Nat → Nat} {sz p c : Nat} (h : kat L sz p = some c) : kskip L sz p < sz ∧ c = L (kskip L sz p) := by
  unfold kat at h
  by_cases hc : kskip L sz p < sz
  · rw [if_pos hc] at h; cases h; exact ⟨hc, rfl⟩
  · rw [if_neg hc] at h; cases h
theorem kdg_b {L : Nat → Nat} {sz m p d : Nat} (h : kdg L sz m p = some d) : d ≤ m ∧ kskip L sz p < sz := by
  unfold kdg at h
  cases hk : kat L sz p with
  | none => rw [hk] at h; cases h
  | some c =>
    rw [hk] at h
    by_cases hc : 48 ≤ c ∧ c - 48 ≤ m
    · simp only [if_pos hc] at h; cases h; exact ⟨hc.2, (kat_lt hk).1⟩
    · simp only [if_neg hc] at h; cases h
theorem kdp_b {L : Nat → Nat} {sz m p : Nat} (h : p ≤ sz) : kdp L sz m p ≤ sz := by
  have := (kskip_b (L := L) h).2
  unfold kdp
  cases hk : kdg L sz m p with
  | none => exact this
  | some d => have := (kdg_b hk).2; show kskip L sz p + 1 ≤ sz; omega
theorem ktp_b {L : Nat → Nat} {sz c p : Nat} (h : p ≤ sz) : ktp L sz c p ≤ sz := by
  have := (kskip_b (L := L) h).2
  unfold ktp
  split
  · rename_i hc
    have := (kat_lt (of_decide_eq_true hc)).1
    omega
  · exact this
theorem knp_b {L : Nat → Nat} {sz p : Nat} (h : p ≤ sz) : knp L sz p ≤ sz := by
  have h1 := kdp_b (L := L) (m := 9) h
  unfold knp
  split
  · exact h1
  · split
    · exact h1
    · exact kdp_b h1
theorem knm_b {L : Nat → Nat} {sz p v : Nat} (h : knm L sz p = some v) : v ≤ 99 := by
  unfold knm at h
  cases h1 : kdg L sz 9 p with
  | none => rw [h1] at h; cases h
  | some a =>
    rw [h1] at h
    have ha := (kdg_b h1).1
    dsimp only at h
    by_cases hc : sz ≤ kdp L sz 9 p ∨ L (kdp L sz 9 p) = 32
    · rw [if_pos hc] at h; cases h; omega
    · rw [if_neg hc] at h
      cases h2 : kdg L sz 9 (kdp L sz 9 p) with
      | none => rw [h2] at h; cases h; omega
      | some b =>
        rw [h2] at h
        have hb := (kdg_b h2).1
        cases h; omega
set_option maxHeartbeats 4000000 in
set_option maxRecDepth 100000 in
theorem c_X3_clear {E : xE} {h : xHp} {bk : Nat} {K : xK} : PMV E mX3_clear [.ref bk] (KH E h bk K) (KH E h bk (K.1, 0, K.2.2)) := by
  refine pm_of [some (.ref bk)] (by decide +kernel) (Nat.le_of_ble_eq_true rfl) rfl ?_
  refine px_aload_n dX3_clear_0 rfl ?_
  refine px_iconst (v := nI 0) dX3_clear_1 (by decide) ?_
  refine px_kPZ dX3_clear_2 (Or.inl fl_X3_15) ?_
  exact px_vret dX3_clear_5 rfl rfl rfl ⟨rfl, rfl⟩
set_option maxHeartbeats 4000000 in
set_option maxRecDepth 100000 in
theorem c_X3_add {E : xE} {h : xHp} {bk : Nat} {K : xK} (c : Nat) (hc : c < 65536) (hz : K.2.1 < 80) : PMI E mX3_add [.ref bk, .int (nI c)] (KH E h bk K) (nI (K.2.1 + 1)) (KH E h bk (va_up K.1 K.2.1 c, K.2.1 + 1, K.2.2)) := by
  refine pm_of [some (.ref bk), some (.int (nI c))] (by decide +kernel) (Nat.le_of_ble_eq_true rfl) rfl ?_
  refine px_aload_n dX3_add_0 rfl ?_
  refine px_kZ dX3_add_1 (Or.inl fl_X3_15) ?_
  refine px_bipush (v := nI 80) dX3_add_4 (by decide) ?_
  refine px_icmp_geN 30 dX3_add_6 (by decide) (by omega) (by omega) (fun c6 => ?_) (fun c6 => ?_)
  · omega
  · refine px_aload_n dX3_add_9 rfl ?_
    refine px_kR dX3_add_10 (Or.inl fl_X3_9) ?_
    refine px_aload_n dX3_add_13 rfl ?_
    refine px_kZ dX3_add_14 (Or.inl fl_X3_15) ?_
    refine px_iload_n dX3_add_17 rfl ?_
    refine px_i2c dX3_add_18 ?_
    refine px_topi (nI_chr (by omega)).1 ?_
    refine px_kW dX3_add_19 (by omega) (by omega) ?_
    refine px_aload_n dX3_add_20 rfl ?_
    refine px_dup dX3_add_21 rfl ?_
    refine px_kZ dX3_add_22 (Or.inl fl_X3_15) ?_
    dsimp only
    refine px_iconst (v := nI 1) dX3_add_25 (by decide) ?_
    refine px_iaddN dX3_add_26 ?_
    refine px_kPZ dX3_add_27 (Or.inl fl_X3_15) ?_
    refine px_aload_n dX3_add_30 rfl ?_
    refine px_kZ dX3_add_31 (Or.inl fl_X3_15) ?_
    dsimp only
    exact px_iret dX3_add_34 rfl rfl rfl ⟨rfl, rfl⟩
set_option maxHeartbeats 4000000 in
set_option maxRecDepth 100000 in
theorem l_X3_peek {E : xE} {h : xHp} {bk : Nat} {K : xK} (hK : kOK K) : ∀ (n p : Nat), p ≤ K.2.1 → K.2.1 + 1 ≤ p + n → PW E mX3_peek (fun v h1 => v = some (.int (eI (kat K.1 K.2.1 p))) ∧ h1 = KH E h bk (K.1, K.2.1, kskip K.1 K.2.1 p)) 0 0 0 [some (.ref bk)] [] (KH E h bk (K.1, K.2.1, p)) := by
  have hk80 := hK.1
  intro n
  induction n with
  | zero =>
    intro p h1 h2
    omega
  | succ n ih =>
    intro p h1 h2
    refine px_aload_n dX3_peek_0 rfl ?_
    refine px_kP dX3_peek_1 (Or.inl fl_X3_19) ?_
    dsimp only
    refine px_aload_n dX3_peek_4 rfl ?_
    refine px_kZ dX3_peek_5 (Or.inl fl_X3_15) ?_
    dsimp only
    refine px_icmp_geN 38 dX3_peek_8 (by decide) (by omega) (by omega) (fun c8 => ?_) (fun c8 => ?_)
    · refine px_aload_n dX3_peek_38 rfl ?_
      refine px_kP dX3_peek_39 (Or.inl fl_X3_19) ?_
      dsimp only
      refine px_aload_n dX3_peek_42 rfl ?_
      refine px_kZ dX3_peek_43 (Or.inl fl_X3_15) ?_
      dsimp only
      refine px_icmp_geN 61 dX3_peek_46 (by decide) (by omega) (by omega) (fun c46 => ?_) (fun c46 => ?_)
      · refine px_iconst (v := -1) dX3_peek_61 (by decide) ?_
        have e0 : kskip K.1 K.2.1 p = p := kskip_n (Or.inl c8)
        exact px_iret dX3_peek_62 rfl rfl rfl ⟨by rw [kat, e0, if_neg (by omega)]; rfl, by rw [e0]⟩
      · refine px_aload_n dX3_peek_49 rfl ?_
        refine px_kR dX3_peek_50 (Or.inl fl_X3_9) ?_
        refine px_aload_n dX3_peek_53 rfl ?_
        refine px_kP dX3_peek_54 (Or.inl fl_X3_19) ?_
        dsimp only
        refine px_kL dX3_peek_57 (by omega) ?_
        dsimp only
        refine px_goto 62 dX3_peek_58 (by decide) ?_
        have e0 : kskip K.1 K.2.1 p = p := kskip_n (Or.inl c8)
        exact px_iret dX3_peek_62 rfl rfl rfl ⟨by rw [kat, e0, if_pos c46]; rfl, by rw [e0]⟩
    · refine px_aload_n dX3_peek_11 rfl ?_
      refine px_kR dX3_peek_12 (Or.inl fl_X3_9) ?_
      refine px_aload_n dX3_peek_15 rfl ?_
      refine px_kP dX3_peek_16 (Or.inl fl_X3_19) ?_
      dsimp only
      refine px_kL dX3_peek_19 (by omega) ?_
      have hl := hK.2 p
      dsimp only
      refine px_bipush (v := nI 32) dX3_peek_20 (by decide) ?_
      refine px_icmp_neN 38 dX3_peek_22 (by decide) (by omega) (by omega) (fun c22 => ?_) (fun c22 => ?_)
      · refine px_aload_n dX3_peek_38 rfl ?_
        refine px_kP dX3_peek_39 (Or.inl fl_X3_19) ?_
        dsimp only
        refine px_aload_n dX3_peek_42 rfl ?_
        refine px_kZ dX3_peek_43 (Or.inl fl_X3_15) ?_
        dsimp only
        refine px_icmp_geN 61 dX3_peek_46 (by decide) (by omega) (by omega) (fun c46 => ?_) (fun c46 => ?_)
        · refine px_iconst (v := -1) dX3_peek_61 (by decide) ?_
          have e0 : kskip K.1 K.2.1 p = p := kskip_n (Or.inr c22)
          exact px_iret dX3_peek_62 rfl rfl rfl ⟨by rw [kat, e0, if_neg (by omega)]; rfl, by rw [e0]⟩
        · refine px_aload_n dX3_peek_49 rfl ?_
          refine px_kR dX3_peek_50 (Or.inl fl_X3_9) ?_
          refine px_aload_n dX3_peek_53 rfl ?_
          refine px_kP dX3_peek_54 (Or.inl fl_X3_19) ?_
          dsimp only
          refine px_kL dX3_peek_57 (by omega) ?_
          dsimp only
          refine px_goto 62 dX3_peek_58 (by decide) ?_
          have e0 : kskip K.1 K.2.1 p = p := kskip_n (Or.inr c22)
          exact px_iret dX3_peek_62 rfl rfl rfl ⟨by rw [kat, e0, if_pos c46]; rfl, by rw [e0]⟩
      · refine px_aload_n dX3_peek_25 rfl ?_
        refine px_dup dX3_peek_26 rfl ?_
        refine px_kP dX3_peek_27 (Or.inl fl_X3_19) ?_
        dsimp only
        refine px_iconst (v := nI 1) dX3_peek_30 (by decide) ?_
        refine px_iaddN dX3_peek_31 ?_
        refine px_kPP dX3_peek_32 (Or.inl fl_X3_19) ?_
        refine px_goto 0 dX3_peek_35 (by decide) ?_
        rw [kat, kskip_y c8 c22, ← kat]
        exact ih (p + 1) (by omega) (by omega)
set_option maxHeartbeats 4000000 in
set_option maxRecDepth 100000 in
theorem c_X3_peek {E : xE} {h : xHp} {bk : Nat} {K : xK} (hK : kOK K) (hp : K.2.2 ≤ K.2.1) : PMI E mX3_peek [.ref bk] (KH E h bk K) (eI (kat K.1 K.2.1 K.2.2)) (KH E h bk (K.1, K.2.1, kskip K.1 K.2.1 K.2.2)) := by
  refine pm_of [some (.ref bk)] (by decide +kernel) (Nat.le_of_ble_eq_true rfl) rfl ?_
  exact l_X3_peek hK (K.2.1 + 1) K.2.2 hp (by omega)
