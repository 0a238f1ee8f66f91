/-! ===== Past ===== -/
abbrev xP : Type := (Nat → xT) × Nat × Nat
def phC (E : xE) (k : Nat) (P : xP) (o : Nat) : Option va_E :=
  if o = 0 then some (.inr (1, [.ref (k + 1), .int (nI P.2.1), .int (nI P.2.2)]))
  else if o = 1 then some (.inl (E.1.2 3, 8, .inr (.inr (.inr (.inr (fun m => some (k + 2 + 7 * m)))))))
  else twC E (k + 2 + 7 * ((o - 2) / 7)) (P.1 ((o - 2) / 7)) ((o - 2) % 7)
abbrev PH (E : xE) (h : xHp) (k : Nat) (P : xP) : xHp := putB h k 58 (phC E k P)
def TA (E : xE) (h : xHp) (b : Nat) (T : xT) : Prop := TH E h b T = h
theorem putB_in {h : xHp} {z L b l : Nat} {f g : Nat → Option va_E} (hb : b + l ≤ L) : putB (putB h z L f) (z + b) l g = putB h z L (fun o => if b ≤ o ∧ o < b + l then g (o - b) else f o) := by
  funext q
  unfold putB
  by_cases h1 : z + b ≤ q ∧ q < z + b + l
  · rw [if_pos h1, if_pos (show z ≤ q ∧ q < z + L by omega)]
    dsimp only
    rw [if_pos (show b ≤ q - z ∧ q - z < b + l by omega)]
    congr 1
    omega
  · rw [if_neg h1]
    by_cases h2 : z ≤ q ∧ q < z + L
    · rw [if_pos h2, if_pos h2]
      dsimp only
      rw [if_neg (show ¬ (b ≤ q - z ∧ q - z < b + l) by omega)]
    · rw [if_neg h2, if_neg h2]
def pSet (P : xP) (m : Nat) (T : xT) : xP := (va_up P.1 m T, P.2)
theorem ph_up {E : xE} {h : xHp} {k m : Nat} {P : xP} {T : xT} (hm : m < 8) : TH E (PH E h k P) (k + 2 + 7 * m) T = PH E h k (pSet P m T) := by
  unfold TH PH
  rw [show k + 2 + 7 * m = k + (2 + 7 * m) by omega, putB_in (by omega)]
  refine putB_congr (fun o ho => ?_)
  by_cases h1 : 2 + 7 * m ≤ o ∧ o < 2 + 7 * m + 7
  · rw [if_pos h1]
    unfold phC
    rw [if_neg (by omega), if_neg (by omega)]
    have e1 : (o - 2) / 7 = m := by omega
    have e2 : (o - 2) % 7 = o - (2 + 7 * m) := by omega
    rw [e1, e2, pSet]
    dsimp only
    rw [va_up_self, show k + 2 + 7 * m = k + (2 + 7 * m) by omega]
  · rw [if_neg h1]
    unfold phC
    by_cases h2 : o = 0
    · rw [if_pos h2, if_pos h2]; rfl
    · rw [if_neg h2, if_neg h2]
      by_cases h3 : o = 1
      · rw [if_pos h3, if_pos h3]
      · rw [if_neg h3, if_neg h3, pSet]
        dsimp only
        rw [va_up_ne _ _ (show (o - 2) / 7 ≠ m by omega)]
theorem pSet_self (P : xP) (m : Nat) : pSet P m (P.1 m) = P := by
  unfold pSet
  have : va_up P.1 m (P.1 m) = P.1 := by
    funext i
    by_cases hi : i = m
    · subst hi; exact va_up_self _ _ _
    · exact va_up_ne _ _ hi
  rw [this]
theorem ph_ta {E : xE} {h : xHp} {k m : Nat} {P : xP} (hm : m < 8) : TA E (PH E h k P) (k + 2 + 7 * m) (P.1 m) := by
  unfold TA
  rw [ph_up hm, pSet_self]
theorem ta_of {E : xE} {h : xHp} {b k L : Nat} {T : xT} {f : Nat → Option va_E} (ht : TA E h b T) (hd : b + 7 ≤ k ∨ k + L ≤ b) : TA E (putB h k L f) b T := by
  unfold TA TH at *
  rw [putB_swap (by omega), ht]
theorem ta_th {E : xE} {h : xHp} {b : Nat} {T : xT} : TA E (TH E h b T) b T := putB_twice
theorem c_bec {E : xE} {h : xHp} {b bn : Nat} {T Tn : xT} (hn : TA E h bn Tn) (hb : TA E h b T) (hdis : b + 7 ≤ bn ∨ bn + 7 ≤ b) : PMV E mX4_become [.ref b, .ref bn] h (TH E h b Tn) := by
  have e : TH E (TH E h bn Tn) b T = h := by rw [show TH E h bn Tn = h from hn]; exact hb
  have e2 : TH E (TH E h bn Tn) b Tn = TH E h b Tn := by rw [show TH E h bn Tn = h from hn]
  have := c_X4_become (E := E) (h := h) (b := b) (b2 := bn) (T := T) (T2 := Tn) hdis
  rw [e, e2] at this
  exact this
section PXP
variable {E : xE} {M : xM} {Q : Option Value → xHp → Prop} {k n pc : Nat} {lo : List (Option Value)} {r : List Value} {h : xHp} {P : xP} {b : Nat}
theorem PH_obj : PH E h b P b = some (.inr (1, [.ref (b + 1), .int (nI P.2.1), .int (nI P.2.2)])) := putB_0 (by decide)
theorem PH_arr : PH E h b P (b + 1) = some (.inl (E.1.2 3, 8, .inr (.inr (.inr (.inr (fun m => some (b + 2 + 7 * m))))))) := putB_at (j := 1) (by decide)
theorem px_pM {i : Nat} (hd : decode (xC M) pc = .ok (.aaload, 1)) (hi : i < 8) (kk : PW E M Q k n (pc + 1) lo (.ref (b + 2 + 7 * i) :: r) (PH E h b P)) : PW E M Q k n pc lo (.int (nI i) :: .ref (b + 1) :: r) (PH E h b P) := by
  refine px_aald3 hd PH_arr (vp_in_nI hi (by decide)) ?_
  rw [nI_clamp (by omega)]
  exact kk
theorem ph_up0 {u v : Nat} : va_up (PH E h b P) b (some (.inr (1, [.ref (b + 1), .int (nI u), .int (nI v)]))) = PH E h b (P.1, u, v) := by
  have e0 : va_up (PH E h b P) b (some (.inr (1, [.ref (b + 1), .int (nI u), .int (nI v)]))) = va_up (PH E h b P) (b + 0) (some (.inr (1, [.ref (b + 1), .int (nI u), .int (nI v)]))) := rfl
  rw [e0]
  unfold PH
  rw [putB_up (by omega)]
  refine putB_congr (fun q hq => ?_)
  by_cases h0 : q = 0
  · subst h0; rw [va_up_self]; rfl
  · rw [va_up_ne _ _ h0]
    unfold phC
    rw [if_neg h0, if_neg h0]
theorem px_pN {idx : Nat} (hd : decode (xC M) pc = .ok (.getfield idx, 3)) (hl : xFL (xY M).cls idx (TX1 1).1 (TX1 1).2.1 (TX1 1).2.2.1) (kk : PW E M Q k n (pc + 3) lo (.int (nI P.2.1) :: r) (PH E h b P)) : PW E M Q k n pc lo (.ref b :: r) (PH E h b P) := px_get xk_X1 1 hd hl PH_obj (by decide) rfl kk
theorem px_pK {idx : Nat} (hd : decode (xC M) pc = .ok (.getfield idx, 3)) (hl : xFL (xY M).cls idx (TX1 2).1 (TX1 2).2.1 (TX1 2).2.2.1) (kk : PW E M Q k n (pc + 3) lo (.int (nI P.2.2) :: r) (PH E h b P)) : PW E M Q k n pc lo (.ref b :: r) (PH E h b P) := px_get xk_X1 2 hd hl PH_obj (by decide) rfl kk
theorem px_pR {idx : Nat} (hd : decode (xC M) pc = .ok (.getfield idx, 3)) (hl : xFL (xY M).cls idx (TX1 0).1 (TX1 0).2.1 (TX1 0).2.2.1) (kk : PW E M Q k n (pc + 3) lo (.ref (b + 1) :: r) (PH E h b P)) : PW E M Q k n pc lo (.ref b :: r) (PH E h b P) := px_get xk_X1 0 hd hl PH_obj (by decide) rfl kk
theorem px_pPN {idx v : Nat} (hd : decode (xC M) pc = .ok (.putfield idx, 3)) (hl : xFL (xY M).cls idx (TX1 1).1 (TX1 1).2.1 (TX1 1).2.2.1) (kk : PW E M Q k n (pc + 3) lo r (PH E h b (P.1, v, P.2.2))) : PW E M Q k n pc lo (.int (nI v) :: .ref b :: r) (PH E h b P) := by
  refine px_put xk_X1 1 hd hl PH_obj (by decide) (by show 1 < 3; decide) rfl rfl rfl ?_
  exact px_heap ph_up0 kk
theorem px_pPK {idx v : Nat} (hd : decode (xC M) pc = .ok (.putfield idx, 3)) (hl : xFL (xY M).cls idx (TX1 2).1 (TX1 2).2.1 (TX1 2).2.2.1) (kk : PW E M Q k n (pc + 3) lo r (PH E h b (P.1, P.2.1, v))) : PW E M Q k n pc lo (.int (nI v) :: .ref b :: r) (PH E h b P) := by
  refine px_put xk_X1 2 hd hl PH_obj (by decide) (by show 2 < 3; decide) rfl rfl rfl ?_
  exact px_heap ph_up0 kk
end PXP
def pkeep (P : xP) (T : xT) : xP := (va_up P.1 P.2.1 T, (P.2.1 + 1) % 8, min 8 (P.2.2 + 1))
def pback (P : xP) : xP := (P.1, (P.2.1 + 8 - 1) % 8, P.2.2 - 1)
def ptown (P : xP) (T : xT) : xT := tSS (P.1 ((P.2.1 + 8 - 1) % 8)) 5 (T.2 5)
set_option maxHeartbeats 4000000 in
set_option maxRecDepth 100000 in
theorem c_X1_forget {E : xE} {h : xHp} {bp : Nat} {P : xP} : PMV E mX1_forget [.ref bp] (PH E h bp P) (PH E h bp (P.1, P.2.1, 0)) := by
  refine pm_of [some (.ref bp)] (by decide +kernel) (Nat.le_of_ble_eq_true rfl) rfl ?_
  refine px_aload_n dX1_forget_0 rfl ?_
  refine px_iconst (v := nI 0) dX1_forget_1 (by decide) ?_
  refine px_pPK dX1_forget_2 (Or.inl fl_X1_26) ?_
  exact px_vret dX1_forget_5 rfl rfl rfl ⟨rfl, rfl⟩
theorem twA {E : xE} {h : xHp} {b : Nat} {T : xT} (ht : TA E h b T) : h b = twC E b T 0 := by
  have := TH_obj (E := E) (h := h) (b := b) (T := T)
  rw [show TH E h b T = h from ht] at this
  exact this
set_option maxHeartbeats 4000000 in
set_option maxRecDepth 100000 in
theorem c_X1_keep {E : xE} {h : xHp} {bp : Nat} {P : xP} {bn : Nat} {Tn : xT} (hn : TA E h bn Tn) (hx : P.2.1 < 8) (hk : P.2.2 ≤ 8) (hdis : bn + 7 ≤ bp ∨ bp + 58 ≤ bn) : PMV E mX1_keep [.ref bp, .ref bn] (PH E h bp P) (PH E h bp (pkeep P Tn)) := by
  refine pm_of [some (.ref bp), some (.ref bn)] (by decide +kernel) (Nat.le_of_ble_eq_true rfl) rfl ?_
  refine px_aload_n dX1_keep_0 rfl ?_
  refine px_pR dX1_keep_1 (Or.inl fl_X1_11) ?_
  refine px_aload_n dX1_keep_4 rfl ?_
  refine px_pN dX1_keep_5 (Or.inl fl_X1_18) ?_
  refine px_pM dX1_keep_8 (by omega) ?_
  refine px_aload_n dX1_keep_9 rfl ?_
  refine px_vv (M2 := mX4_become) (c_bec (ta_of hn (by omega)) (ph_ta (by omega)) (by omega)) mw_X4_become wm_X4_become we_X4_become (Or.inr ⟨_, ml_X1_22⟩) dX1_keep_10 (twA (ph_ta (by omega))) rfl (by decide) rfl rfl (Nat.le_of_ble_eq_true rfl) ⟨rfl, rfl⟩ ?_
  refine px_heap (h2 := PH E h bp (va_up P.1 P.2.1 Tn, P.2.1, P.2.2)) (ph_up (by omega)) ?_
  refine px_aload_n dX1_keep_13 rfl ?_
  refine px_aload_n dX1_keep_14 rfl ?_
  refine px_pN dX1_keep_15 (Or.inl fl_X1_18) ?_
  dsimp only
  refine px_iconst (v := nI 1) dX1_keep_18 (by decide) ?_
  refine px_iaddN dX1_keep_19 ?_
  refine px_bipush (v := nI 8) dX1_keep_20 (by decide) ?_
  refine px_iremN dX1_keep_22 (by omega) (by omega) (by omega) ?_
  refine px_pPN dX1_keep_23 (Or.inl fl_X1_18) ?_
  refine px_aload_n dX1_keep_26 rfl ?_
  refine px_bipush (v := nI 8) dX1_keep_27 (by decide) ?_
  refine px_aload_n dX1_keep_29 rfl ?_
  refine px_pK dX1_keep_30 (Or.inl fl_X1_26) ?_
  dsimp only
  refine px_iconst (v := nI 1) dX1_keep_33 (by decide) ?_
  refine px_iaddN dX1_keep_34 ?_
  refine px_min dX1_keep_35 ml_X1_29 wt_Math_min wi_java_lang_Math wc_Math_min (by decide) (Nat.le_of_ble_eq_true rfl) ⟨Nat.zero_le _, Nat.zero_le _⟩ ?_
  refine px_topi (nI_min (by decide) (by omega)) ?_
  refine px_pPK dX1_keep_38 (Or.inl fl_X1_26) ?_
  exact px_vret dX1_keep_41 rfl rfl rfl ⟨rfl, rfl⟩
set_option maxHeartbeats 4000000 in
set_option maxRecDepth 100000 in
theorem c_X1_takeBack {E : xE} {h : xHp} {bp : Nat} {P : xP} {bn : Nat} {Tn : xT} (hx : P.2.1 < 8) (hk : P.2.2 ≤ 8) (h0 : 0 < P.2.2) (hdis : bn + 7 ≤ bp ∨ bp + 58 ≤ bn) : PMV E mX1_takeBack [.ref bp, .ref bn] (PH E (TH E h bn Tn) bp P) (PH E (TH E h bn (ptown P Tn)) bp (pback P)) := by
  refine pm_of [some (.ref bp), some (.ref bn), none] (by decide +kernel) (Nat.le_of_ble_eq_true rfl) rfl ?_
  refine px_aload_n dX1_takeBack_0 rfl ?_
  refine px_pK dX1_takeBack_1 (Or.inl fl_X1_26) ?_
  refine px_if_leN 56 dX1_takeBack_4 (by decide) (by omega) (fun c4 => ?_) (fun c4 => ?_)
  · omega
  · refine px_aload_n dX1_takeBack_7 rfl ?_
    refine px_aload_n dX1_takeBack_8 rfl ?_
    refine px_pN dX1_takeBack_9 (Or.inl fl_X1_18) ?_
    refine px_bipush (v := nI 8) dX1_takeBack_12 (by decide) ?_
    refine px_iaddN dX1_takeBack_14 ?_
    refine px_iconst (v := nI 1) dX1_takeBack_15 (by decide) ?_
    refine px_isubN dX1_takeBack_16 (by omega) ?_
    refine px_bipush (v := nI 8) dX1_takeBack_17 (by decide) ?_
    refine px_iremN dX1_takeBack_19 (by omega) (by omega) (by omega) ?_
    refine px_pPN dX1_takeBack_20 (Or.inl fl_X1_18) ?_
    refine px_aload_n dX1_takeBack_23 rfl ?_
    refine px_dup dX1_takeBack_24 rfl ?_
    refine px_pK dX1_takeBack_25 (Or.inl fl_X1_26) ?_
    dsimp only
    refine px_iconst (v := nI 1) dX1_takeBack_28 (by decide) ?_
    refine px_isubN dX1_takeBack_29 (by omega) ?_
    refine px_pPK dX1_takeBack_30 (Or.inl fl_X1_26) ?_
    refine px_heap (h2 := TH E (PH E h bp (pback P)) bn Tn) (putB_swap (by omega)) ?_
    refine px_aload_n dX1_takeBack_33 rfl ?_
    refine px_tS 5 dX1_takeBack_34 (Or.inr ⟨_, fl_X1_35⟩) (by decide) ?_
    refine px_istn_2 dX1_takeBack_37 (by decide) rfl ?_
    refine px_heap (h2 := PH E (TH E h bn Tn) bp (pback P)) (putB_swap (by omega)) ?_
    refine px_aload_n dX1_takeBack_38 rfl ?_
    refine px_aload_n dX1_takeBack_39 rfl ?_
    refine px_pR dX1_takeBack_40 (Or.inl fl_X1_11) ?_
    refine px_aload_n dX1_takeBack_43 rfl ?_
    refine px_pN dX1_takeBack_44 (Or.inl fl_X1_18) ?_
    have hlt8 : (pback P).2.1 < 8 := Nat.mod_lt _ (by decide)
    refine px_pM dX1_takeBack_47 (by omega) ?_
    refine px_vv (M2 := mX4_become) (c_bec (E := E) (h := PH E (TH E h bn Tn) bp (pback P)) (b := bn) (T := Tn) (ph_ta (P := pback P) (m := (P.2.1 + 8 - 1) % 8) (by omega)) (ta_of ta_th (by omega)) (by omega)) mw_X4_become wm_X4_become we_X4_become (Or.inr ⟨_, ml_X1_22⟩) dX1_takeBack_48 (twA (ta_of ta_th (by omega))) rfl (by decide) rfl rfl (Nat.le_of_ble_eq_true rfl) ⟨rfl, rfl⟩ ?_
    refine px_heap (h2 := TH E (PH E h bp (pback P)) bn (P.1 ((P.2.1 + 8 - 1) % 8))) (by unfold TH PH; rw [putB_swap (k := bp) (k2 := bn) (by omega), putB_twice, putB_swap (k := bn) (k2 := bp) (by omega)]; try rfl) ?_
    refine px_aload_n dX1_takeBack_51 rfl ?_
    refine px_iload_n dX1_takeBack_52 rfl ?_
    refine px_tP 5 dX1_takeBack_53 (Or.inr ⟨_, fl_X1_35⟩) (by decide) ?_
    exact px_vret dX1_takeBack_56 rfl rfl rfl ⟨rfl, putB_swap (by omega)⟩
def pmix (P R : xP) (i : Nat) : xP := (fun m => if m < i then R.1 m else P.1 m, P.2)
theorem pmix_0 (P R : xP) : pmix P R 0 = P := by
  unfold pmix; simp
theorem pmix_s (P R : xP) (i : Nat) : pSet (pmix P R i) i (R.1 i) = pmix P R (i + 1) := by
  unfold pSet pmix
  congr 1
  funext m
  unfold va_up
  by_cases h : m = i
  · subst h; rw [if_pos rfl, if_pos (by omega)]
  · rw [if_neg h]
    dsimp only
    by_cases h2 : m < i
    · rw [if_pos h2, if_pos (by omega)]
    · rw [if_neg h2, if_neg (by omega)]
theorem ph_cong {E : xE} {h : xHp} {b : Nat} {P R : xP} (h1 : ∀ m, m < 8 → P.1 m = R.1 m) (h2 : P.2 = R.2) : PH E h b P = PH E h b R := by
  refine putB_congr (fun o ho => ?_)
  unfold phC
  rw [h1 ((o - 2) / 7) (by omega), h2]
set_option maxHeartbeats 4000000 in
set_option maxRecDepth 100000 in
theorem l_X1_become {E : xE} {h : xHp} {bp bq : Nat} {P R : xP} (hdis : bq + 58 ≤ bp ∨ bp + 58 ≤ bq) : ∀ (n i : Nat), i ≤ 8 → 9 ≤ i + n → PW E mX1_become (fun v h1 => v = none ∧ h1 = PH E (PH E h bq R) bp R) 0 0 2 [some (.ref bp), some (.ref bq), some (.int (nI i))] [] (PH E (PH E h bq R) bp (pmix P R i)) := by
  intro n
  induction n with
  | zero =>
    intro i h1 h2
    omega
  | succ n ih =>
    intro i h1 h2
    refine px_iload_n dX1_become_2 rfl ?_
    refine px_bipush (v := nI 8) dX1_become_3 (by decide) ?_
    refine px_icmp_geN 29 dX1_become_5 (by decide) (by omega) (by omega) (fun c5 => ?_) (fun c5 => ?_)
    · refine px_aload_n dX1_become_29 rfl ?_
      refine px_aload_n dX1_become_30 rfl ?_
      refine px_heap (h2 := PH E (PH E h bp (pmix P R i)) bq R) (putB_swap (by omega)) ?_
      refine px_pN dX1_become_31 (Or.inl fl_X1_18) ?_
      refine px_heap (h2 := PH E (PH E h bq R) bp (pmix P R i)) (putB_swap (by omega)) ?_
      refine px_pPN dX1_become_34 (Or.inl fl_X1_18) ?_
      refine px_aload_n dX1_become_37 rfl ?_
      refine px_aload_n dX1_become_38 rfl ?_
      refine px_heap (h2 := PH E (PH E h bp ((pmix P R i).1, R.2.1, P.2.2)) bq R) (putB_swap (by omega)) ?_
      refine px_pK dX1_become_39 (Or.inl fl_X1_26) ?_
      refine px_heap (h2 := PH E (PH E h bq R) bp ((pmix P R i).1, R.2.1, P.2.2)) (putB_swap (by omega)) ?_
      refine px_pPK dX1_become_42 (Or.inl fl_X1_26) ?_
      have hi : i = 8 := by omega
      subst hi
      exact px_vret dX1_become_45 rfl rfl rfl ⟨rfl, ph_cong (fun m hm => if_pos hm) rfl⟩
    · refine px_aload_n dX1_become_8 rfl ?_
      refine px_pR dX1_become_9 (Or.inl fl_X1_11) ?_
      refine px_iload_n dX1_become_12 rfl ?_
      refine px_pM dX1_become_13 (by omega) ?_
      refine px_aload_n dX1_become_14 rfl ?_
      refine px_heap (h2 := PH E (PH E h bp (pmix P R i)) bq R) (putB_swap (by omega)) ?_
      refine px_pR dX1_become_15 (Or.inl fl_X1_11) ?_
      refine px_iload_n dX1_become_18 rfl ?_
      refine px_pM dX1_become_19 (by omega) ?_
      refine px_heap (h2 := PH E (PH E h bq R) bp (pmix P R i)) (putB_swap (by omega)) ?_
      refine px_vv (M2 := mX4_become) (c_bec (h := PH E (PH E h bq R) bp (pmix P R i)) (b := bp + 2 + 7 * i) (T := (pmix P R i).1 i) (ta_of (ph_ta (P := R) (m := i) (by omega)) (by omega)) (ph_ta (by omega)) (by omega)) mw_X4_become wm_X4_become we_X4_become (Or.inr ⟨_, ml_X1_22⟩) dX1_become_20 (twA (ph_ta (P := pmix P R i) (m := i) (by omega))) rfl (by decide) rfl rfl (Nat.le_of_ble_eq_true rfl) ⟨rfl, rfl⟩ ?_
      refine px_inc_2 dX1_become_23 rfl (nI_1 _) (by decide) rfl ?_
      refine px_goto 2 dX1_become_26 (by decide) ?_
      refine px_heap (h2 := PH E (PH E h bq R) bp (pmix P R (i + 1))) (by rw [ph_up (by omega), pmix_s]) (ih (i + 1) (by omega) (by omega))
set_option maxHeartbeats 4000000 in
set_option maxRecDepth 100000 in
theorem c_X1_become {E : xE} {h : xHp} {bp bq : Nat} {P R : xP} (hdis : bq + 58 ≤ bp ∨ bp + 58 ≤ bq) : PMV E mX1_become [.ref bp, .ref bq] (PH E (PH E h bq R) bp P) (PH E (PH E h bq R) bp R) := by
  refine pm_of [some (.ref bp), some (.ref bq), none] (by decide +kernel) (Nat.le_of_ble_eq_true rfl) rfl ?_
  refine px_iconst (v := nI 0) dX1_become_0 (by decide) ?_
  refine px_istn_2 dX1_become_1 (by decide) rfl ?_
  exact px_heap (by rw [pmix_0]) (l_X1_become hdis 9 0 (by omega) (by omega))
