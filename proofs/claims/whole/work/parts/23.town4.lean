section PXT2
variable {E : xE} {M : xM} {Q : Option Value → xHp → Prop} {k n pc : Nat} {lo : List (Option Value)} {r : List Value} {h : xHp} {T T2 : xT} {b b2 : Nat}
theorem TH2_obj (hdis : b + 7 ≤ b2 ∨ b2 + 7 ≤ b) : TH E (TH E h b2 T2) b T b2 = twC E b2 T2 0 := by
  unfold TH
  rw [putB_out (by omega)]
  exact putB_0 (by decide)
theorem TH2_arr {j : Nat} (hdis : b + 7 ≤ b2 ∨ b2 + 7 ≤ b) (hj : j < 6) : TH E (TH E h b2 T2) b T (b2 + (j + 1)) = some (.inl (E.1.2 0, twN j, .inl (fun i => nI (T2.1 j i)))) := by
  unfold TH
  rw [putB_out (by omega)]
  exact putB_at (j := j + 1) (by omega)
theorem px_tS2 {idx : Nat} (j : Nat) (hd : decode (xC M) pc = .ok (.getfield idx, 3)) (hl : xFL (xY M).cls idx (TX4 (6 + j)).1 (TX4 (6 + j)).2.1 (TX4 (6 + j)).2.2.1) (hdis : b + 7 ≤ b2 ∨ b2 + 7 ≤ b) (hj : j < 7) (kk : PW E M Q k n (pc + 3) lo (.int (nI (T2.2 j)) :: r) (TH E (TH E h b2 T2) b T)) : PW E M Q k n pc lo (.ref b2 :: r) (TH E (TH E h b2 T2) b T) := by
  refine px_get xk_X4 (6 + j) hd hl (TH2_obj hdis) (by omega) ?_ kk
  match j, hj with
  | 0, _ => rfl
  | 1, _ => rfl
  | 2, _ => rfl
  | 3, _ => rfl
  | 4, _ => rfl
  | 5, _ => rfl
  | 6, _ => rfl
theorem px_tR2 {idx : Nat} (j : Nat) (hd : decode (xC M) pc = .ok (.getfield idx, 3)) (hl : xFL (xY M).cls idx (TX4 j).1 (TX4 j).2.1 (TX4 j).2.2.1) (hdis : b + 7 ≤ b2 ∨ b2 + 7 ≤ b) (hj : j < 6) (kk : PW E M Q k n (pc + 3) lo (.ref (b2 + (j + 1)) :: r) (TH E (TH E h b2 T2) b T)) : PW E M Q k n pc lo (.ref b2 :: r) (TH E (TH E h b2 T2) b T) := by
  refine px_get xk_X4 j hd hl (TH2_obj hdis) (by omega) ?_ kk
  match j, hj with
  | 0, _ => rfl
  | 1, _ => rfl
  | 2, _ => rfl
  | 3, _ => rfl
  | 4, _ => rfl
  | 5, _ => rfl
def tSR (T : xT) (j : Nat) (f : Nat → Nat) : xT := (fun j' => if j' = j then f else T.1 j', T.2)
theorem th_cong {T' : xT} (h1 : ∀ j, j < 6 → T.1 j = T'.1 j) (h2 : ∀ j, j < 7 → T.2 j = T'.2 j) : TH E h b T = TH E h b T' := by
  refine putB_congr (fun q hq => ?_)
  match q with
  | 0 => simp only [twC, h2 0 (by omega), h2 1 (by omega), h2 2 (by omega), h2 3 (by omega), h2 4 (by omega), h2 5 (by omega), h2 6 (by omega)]
  | q + 1 => simp only [twC, h1 q (by omega)]
theorem px_tcp {idx : Nat} (j : Nat) (hd : decode (xC M) pc = .ok (.invokestatic idx, 3)) (hl : Cond.methodLink (xY M).cls idx arraycopyName ∈ GW) (hdis : b + 7 ≤ b2 ∨ b2 + 7 ≤ b) (hj : j < 6) (hR : 1 ≤ xd M) (hcat : (r.map fun v => v.category).sum ≤ 8) (kk : PW E M Q 0 0 (pc + 3) lo r (TH E (TH E h b2 T2) b (tSR T j (T2.1 j)))) : PW E M Q 0 0 pc lo (.int (nI (twN j)) :: .int (nI 0) :: .ref (b + (j + 1)) :: .int (nI 0) :: .ref (b2 + (j + 1)) :: r) (TH E (TH E h b2 T2) b T) := by
  have hN : twN j < 2 ^ 31 := by unfold twN; split <;> decide
  refine px_copyi hd hl (TH2_arr hdis hj) (TH_arr hj) (by omega) (by omega) hN hN hR hcat (px_eqv (fun a => ?_) kk)
  by_cases ha : a = b + (j + 1)
  · subst ha
    refine Or.inr ⟨_, _, _, _, va_up_self _ _ _, TH_arr hj, fun i hi => ?_⟩
    simp only [va_cpy, tSR]
    rw [if_pos ⟨by omega, by omega⟩]
    simp
  · refine Or.inl ?_
    rw [va_up_ne _ _ ha]
    unfold TH putB
    by_cases hr : b ≤ a ∧ a < b + 7
    · rw [if_pos hr, if_pos hr]
      match hq : a - b with
      | 0 => rfl
      | q + 1 =>
        have hqj : q ≠ j := fun e => ha (by omega)
        show some (Sum.inl (E.1.2 0, twN q, Sum.inl (fun i' => nI (T.1 q i')))) = some (Sum.inl (E.1.2 0, twN q, Sum.inl (fun i' => nI ((tSR T j (T2.1 j)).1 q i'))))
        simp only [tSR, if_neg hqj]
    · rw [if_neg hr, if_neg hr]
end PXT2
set_option maxHeartbeats 4000000 in
set_option maxRecDepth 100000 in
theorem c_X4_become {E : xE} {h : xHp} {b b2 : Nat} {T T2 : xT} (hdis : b + 7 ≤ b2 ∨ b2 + 7 ≤ b) : PMV E mX4_become [.ref b, .ref b2] (TH E (TH E h b2 T2) b T) (TH E (TH E h b2 T2) b T2) := by
  refine pm_of [some (.ref b), some (.ref b2)] (by decide +kernel) (Nat.le_of_ble_eq_true rfl) rfl ?_
  refine px_aload_n dX4_become_0 rfl ?_
  refine px_tR2 0 dX4_become_1 (Or.inl fl_X4_9) hdis (by decide) ?_
  refine px_iconst (v := nI 0) dX4_become_4 (by decide) ?_
  refine px_aload_n dX4_become_5 rfl ?_
  refine px_tR 0 dX4_become_6 (Or.inl fl_X4_9) (by decide) ?_
  refine px_iconst (v := nI 0) dX4_become_9 (by decide) ?_
  refine px_bipush (v := nI 6) dX4_become_10 (by decide) ?_
  refine px_tcp 0 dX4_become_12 ml_X4_37 hdis (by decide) (by decide) (Nat.le_of_ble_eq_true rfl) ?_
  refine px_aload_n dX4_become_15 rfl ?_
  refine px_tR2 1 dX4_become_16 (Or.inl fl_X4_15) hdis (by decide) ?_
  refine px_iconst (v := nI 0) dX4_become_19 (by decide) ?_
  refine px_aload_n dX4_become_20 rfl ?_
  refine px_tR 1 dX4_become_21 (Or.inl fl_X4_15) (by decide) ?_
  refine px_iconst (v := nI 0) dX4_become_24 (by decide) ?_
  refine px_bipush (v := nI 6) dX4_become_25 (by decide) ?_
  refine px_tcp 1 dX4_become_27 ml_X4_37 hdis (by decide) (by decide) (Nat.le_of_ble_eq_true rfl) ?_
  refine px_aload_n dX4_become_30 rfl ?_
  refine px_tR2 2 dX4_become_31 (Or.inl fl_X4_18) hdis (by decide) ?_
  refine px_iconst (v := nI 0) dX4_become_34 (by decide) ?_
  refine px_aload_n dX4_become_35 rfl ?_
  refine px_tR 2 dX4_become_36 (Or.inl fl_X4_18) (by decide) ?_
  refine px_iconst (v := nI 0) dX4_become_39 (by decide) ?_
  refine px_bipush (v := nI 6) dX4_become_40 (by decide) ?_
  refine px_tcp 2 dX4_become_42 ml_X4_37 hdis (by decide) (by decide) (Nat.le_of_ble_eq_true rfl) ?_
  refine px_aload_n dX4_become_45 rfl ?_
  refine px_tR2 3 dX4_become_46 (Or.inl fl_X4_21) hdis (by decide) ?_
  refine px_iconst (v := nI 0) dX4_become_49 (by decide) ?_
  refine px_aload_n dX4_become_50 rfl ?_
  refine px_tR 3 dX4_become_51 (Or.inl fl_X4_21) (by decide) ?_
  refine px_iconst (v := nI 0) dX4_become_54 (by decide) ?_
  refine px_bipush (v := nI 6) dX4_become_55 (by decide) ?_
  refine px_tcp 3 dX4_become_57 ml_X4_37 hdis (by decide) (by decide) (Nat.le_of_ble_eq_true rfl) ?_
  refine px_aload_n dX4_become_60 rfl ?_
  refine px_tR2 4 dX4_become_61 (Or.inl fl_X4_24) hdis (by decide) ?_
  refine px_iconst (v := nI 0) dX4_become_64 (by decide) ?_
  refine px_aload_n dX4_become_65 rfl ?_
  refine px_tR 4 dX4_become_66 (Or.inl fl_X4_24) (by decide) ?_
  refine px_iconst (v := nI 0) dX4_become_69 (by decide) ?_
  refine px_iconst (v := nI 4) dX4_become_70 (by decide) ?_
  refine px_tcp 4 dX4_become_71 ml_X4_37 hdis (by decide) (by decide) (Nat.le_of_ble_eq_true rfl) ?_
  refine px_aload_n dX4_become_74 rfl ?_
  refine px_tR2 5 dX4_become_75 (Or.inl fl_X4_27) hdis (by decide) ?_
  refine px_iconst (v := nI 0) dX4_become_78 (by decide) ?_
  refine px_aload_n dX4_become_79 rfl ?_
  refine px_tR 5 dX4_become_80 (Or.inl fl_X4_27) (by decide) ?_
  refine px_iconst (v := nI 0) dX4_become_83 (by decide) ?_
  refine px_iconst (v := nI 4) dX4_become_84 (by decide) ?_
  refine px_tcp 5 dX4_become_85 ml_X4_37 hdis (by decide) (by decide) (Nat.le_of_ble_eq_true rfl) ?_
  refine px_aload_n dX4_become_88 rfl ?_
  refine px_aload_n dX4_become_89 rfl ?_
  refine px_tS2 0 dX4_become_90 (Or.inl fl_X4_43) hdis (by decide) ?_
  refine px_tP 0 dX4_become_93 (Or.inl fl_X4_43) (by decide) ?_
  refine px_aload_n dX4_become_96 rfl ?_
  refine px_aload_n dX4_become_97 rfl ?_
  refine px_tS2 1 dX4_become_98 (Or.inl fl_X4_46) hdis (by decide) ?_
  refine px_tP 1 dX4_become_101 (Or.inl fl_X4_46) (by decide) ?_
  refine px_aload_n dX4_become_104 rfl ?_
  refine px_aload_n dX4_become_105 rfl ?_
  refine px_tS2 2 dX4_become_106 (Or.inl fl_X4_49) hdis (by decide) ?_
  refine px_tP 2 dX4_become_109 (Or.inl fl_X4_49) (by decide) ?_
  refine px_aload_n dX4_become_112 rfl ?_
  refine px_aload_n dX4_become_113 rfl ?_
  refine px_tS2 3 dX4_become_114 (Or.inl fl_X4_52) hdis (by decide) ?_
  refine px_tP 3 dX4_become_117 (Or.inl fl_X4_52) (by decide) ?_
  refine px_aload_n dX4_become_120 rfl ?_
  refine px_aload_n dX4_become_121 rfl ?_
  refine px_tS2 4 dX4_become_122 (Or.inl fl_X4_55) hdis (by decide) ?_
  refine px_tP 4 dX4_become_125 (Or.inl fl_X4_55) (by decide) ?_
  refine px_aload_n dX4_become_128 rfl ?_
  refine px_aload_n dX4_become_129 rfl ?_
  refine px_tS2 5 dX4_become_130 (Or.inl fl_X4_30) hdis (by decide) ?_
  refine px_tP 5 dX4_become_133 (Or.inl fl_X4_30) (by decide) ?_
  refine px_aload_n dX4_become_136 rfl ?_
  refine px_aload_n dX4_become_137 rfl ?_
  refine px_tS2 6 dX4_become_138 (Or.inl fl_X4_34) hdis (by decide) ?_
  refine px_tP 6 dX4_become_141 (Or.inl fl_X4_34) (by decide) ?_
  refine px_vret dX4_become_144 rfl rfl rfl ⟨rfl, th_cong (fun j hj => ?_) (fun j hj => ?_)⟩
  · match j, hj with
    | 0, _ => rfl
    | 1, _ => rfl
    | 2, _ => rfl
    | 3, _ => rfl
    | 4, _ => rfl
    | 5, _ => rfl
  · match j, hj with
    | 0, _ => rfl
    | 1, _ => rfl
    | 2, _ => rfl
    | 3, _ => rfl
    | 4, _ => rfl
    | 5, _ => rfl
    | 6, _ => rfl
set_option maxHeartbeats 4000000 in
set_option maxRecDepth 100000 in
theorem c_X5_isWithin {E : xE} {h : xHp} (x y z : Int32) : PMI E mX5_isWithin [.int x, .int y, .int z] h (bI (decide (y ≤ x ∧ x ≤ z))) h := by
  refine pm_of [some (.int x), some (.int y), some (.int z)] (by decide +kernel) (Nat.le_of_ble_eq_true rfl) rfl ?_
  refine px_iload_n dX5_isWithin_0 rfl ?_
  refine px_iload_n dX5_isWithin_1 rfl ?_
  refine px_icmp_lt 14 dX5_isWithin_2 (by decide) (fun c2 => ?_) (fun c2 => ?_)
  · refine px_iconst (v := nI 0) dX5_isWithin_14 (by decide) ?_
    have q : ¬ (y ≤ x ∧ x ≤ z) := fun q => absurd c2 (Int32.not_lt.mpr q.1)
    exact px_bret (b := decide (y ≤ x ∧ x ≤ z)) dX5_isWithin_15 rfl rfl rfl (by rw [decide_eq_false q]; rfl) ⟨rfl, rfl⟩
  · refine px_iload_n dX5_isWithin_5 rfl ?_
    refine px_iload_n dX5_isWithin_6 rfl ?_
    refine px_icmp_gt 14 dX5_isWithin_7 (by decide) (fun c7 => ?_) (fun c7 => ?_)
    · refine px_iconst (v := nI 0) dX5_isWithin_14 (by decide) ?_
      have q : ¬ (y ≤ x ∧ x ≤ z) := fun q => absurd c7 (Int32.not_lt.mpr q.2)
      exact px_bret (b := decide (y ≤ x ∧ x ≤ z)) dX5_isWithin_15 rfl rfl rfl (by rw [decide_eq_false q]; rfl) ⟨rfl, rfl⟩
    · refine px_iconst (v := nI 1) dX5_isWithin_10 (by decide) ?_
      refine px_goto 15 dX5_isWithin_11 (by decide) ?_
      have q : y ≤ x ∧ x ≤ z := ⟨Int32.not_lt.mp c2, Int32.not_lt.mp c7⟩
      exact px_bret (b := decide (y ≤ x ∧ x ≤ z)) dX5_isWithin_15 rfl rfl rfl (by rw [decide_eq_true q]; rfl) ⟨rfl, rfl⟩
set_option maxHeartbeats 4000000 in
set_option maxRecDepth 100000 in
theorem l_X5_power {E : xE} {h : xHp} (x e : Nat) (he : e ≤ 4) : ∀ (n i : Nat), i ≤ e → e + 1 ≤ i + n → PW E mX5_power (fun v h1 => v = some (.int (nI (x ^ e))) ∧ h1 = h) 0 0 4 [some (.int (nI x)), some (.int (nI e)), some (.int (nI (x ^ i))), some (.int (nI i))] [] h := by
  intro n
  induction n with
  | zero =>
    intro i h1 h2
    omega
  | succ n ih =>
    intro i h1 h2
    refine px_iload_n dX5_power_4 rfl ?_
    refine px_iload_n dX5_power_5 rfl ?_
    refine px_icmp_geN 24 dX5_power_6 (by decide) (by omega) (by omega) (fun c6 => ?_) (fun c6 => ?_)
    · refine px_iload_n dX5_power_24 rfl ?_
      have hi : i = e := by omega
      subst hi
      exact px_iret dX5_power_25 rfl rfl rfl ⟨rfl, rfl⟩
    · refine px_iload_n dX5_power_9 rfl ?_
      refine px_iconst (v := nI 4) dX5_power_10 (by decide) ?_
      refine px_icmp_geN 24 dX5_power_11 (by decide) (by omega) (by omega) (fun c11 => ?_) (fun c11 => ?_)
      · omega
      · refine px_iload_n dX5_power_14 rfl ?_
        refine px_iload_n dX5_power_15 rfl ?_
        refine px_imulN dX5_power_16 ?_
        refine px_istn_2 dX5_power_17 (by decide) rfl ?_
        refine px_inc_3 dX5_power_18 rfl (nI_1 _) (by decide) rfl ?_
        refine px_goto 4 dX5_power_21 (by decide) ?_
        refine px_eq (lo2 := [some (.int (nI x)), some (.int (nI e)), some (.int (nI (x ^ (i + 1)))), some (.int (nI (i + 1)))]) ?_ rfl rfl (ih (i + 1) (by omega) (by omega))
        rw [Nat.pow_succ]
set_option maxHeartbeats 4000000 in
set_option maxRecDepth 100000 in
theorem c_X5_power {E : xE} {h : xHp} (x e : Nat) (he : e ≤ 4) : PMI E mX5_power [.int (nI x), .int (nI e)] h (nI (x ^ e)) h := by
  refine pm_of [some (.int (nI x)), some (.int (nI e)), none, none] (by decide +kernel) (Nat.le_of_ble_eq_true rfl) rfl ?_
  refine px_iconst (v := nI 1) dX5_power_0 (by decide) ?_
  refine px_istn_2 dX5_power_1 (by decide) rfl ?_
  refine px_iconst (v := nI 0) dX5_power_2 (by decide) ?_
  refine px_istn_3 dX5_power_3 (by decide) rfl ?_
  exact l_X5_power x e he (e + 1) 0 (Nat.zero_le _) (by omega)
def bc (w : Nat) : Nat := w % 2 + w / 2 % 2 + w / 4 % 2 + w / 8 % 2 + w / 16 % 2 + w / 32 % 2
theorem bc_le : ∀ k, k ≤ 4 → ∀ s, s < 2 ^ k → bc s ≤ k := by decide +kernel
theorem bc_6 (w : Nat) : bc w ≤ 6 := by unfold bc; omega
set_option maxHeartbeats 4000000 in
set_option maxRecDepth 100000 in
theorem c_J6_bitCount_0f7a4 {E : xE} {h : xHp} (w : Nat) (hw : w < 64) : PMI E mJ6_bitCount_0f7a4 [.int (nI w)] h (nI (bc w)) h := by
  refine pm_of [some (.int (nI w))] (by decide +kernel) (Nat.le_of_ble_eq_true rfl) rfl ?_
  refine px_iload_n dJ6_bitCount_0f7a4_0 rfl ?_
  refine px_iload_n dJ6_bitCount_0f7a4_1 rfl ?_
  refine px_iconst (v := nI 1) dJ6_bitCount_0f7a4_2 (by decide) ?_
  refine px_iushr dJ6_bitCount_0f7a4_3 ?_
  refine px_ldcw dJ6_bitCount_0f7a4_4 kc_J6_265 ?_
  refine px_topi (nI_lit 1431655765) ?_
  refine px_iand dJ6_bitCount_0f7a4_7 ?_
  refine px_isub dJ6_bitCount_0f7a4_8 ?_
  refine px_istn_0 dJ6_bitCount_0f7a4_9 (by decide) rfl ?_
  refine px_iload_n dJ6_bitCount_0f7a4_10 rfl ?_
  refine px_ldcw dJ6_bitCount_0f7a4_11 kc_J6_266 ?_
  refine px_topi (nI_lit 858993459) ?_
  refine px_iand dJ6_bitCount_0f7a4_14 ?_
  refine px_iload_n dJ6_bitCount_0f7a4_15 rfl ?_
  refine px_iconst (v := nI 2) dJ6_bitCount_0f7a4_16 (by decide) ?_
  refine px_iushr dJ6_bitCount_0f7a4_17 ?_
  refine px_ldcw dJ6_bitCount_0f7a4_18 kc_J6_266 ?_
  refine px_topi (nI_lit 858993459) ?_
  refine px_iand dJ6_bitCount_0f7a4_21 ?_
  refine px_iadd dJ6_bitCount_0f7a4_22 ?_
  refine px_istn_0 dJ6_bitCount_0f7a4_23 (by decide) rfl ?_
  refine px_iload_n dJ6_bitCount_0f7a4_24 rfl ?_
  refine px_iload_n dJ6_bitCount_0f7a4_25 rfl ?_
  refine px_iconst (v := nI 4) dJ6_bitCount_0f7a4_26 (by decide) ?_
  refine px_iushr dJ6_bitCount_0f7a4_27 ?_
  refine px_iadd dJ6_bitCount_0f7a4_28 ?_
  refine px_ldcw dJ6_bitCount_0f7a4_29 kc_J6_267 ?_
  refine px_topi (nI_lit 252645135) ?_
  refine px_iand dJ6_bitCount_0f7a4_32 ?_
  refine px_istn_0 dJ6_bitCount_0f7a4_33 (by decide) rfl ?_
  refine px_iload_n dJ6_bitCount_0f7a4_34 rfl ?_
  refine px_iload_n dJ6_bitCount_0f7a4_35 rfl ?_
  refine px_bipush (v := nI 8) dJ6_bitCount_0f7a4_36 (by decide) ?_
  refine px_iushr dJ6_bitCount_0f7a4_38 ?_
  refine px_iadd dJ6_bitCount_0f7a4_39 ?_
  refine px_istn_0 dJ6_bitCount_0f7a4_40 (by decide) rfl ?_
  refine px_iload_n dJ6_bitCount_0f7a4_41 rfl ?_
  refine px_iload_n dJ6_bitCount_0f7a4_42 rfl ?_
  refine px_bipush (v := nI 16) dJ6_bitCount_0f7a4_43 (by decide) ?_
  refine px_iushr dJ6_bitCount_0f7a4_45 ?_
  refine px_iadd dJ6_bitCount_0f7a4_46 ?_
  refine px_istn_0 dJ6_bitCount_0f7a4_47 (by decide) rfl ?_
  refine px_iload_n dJ6_bitCount_0f7a4_48 rfl ?_
  refine px_bipush (v := nI 63) dJ6_bitCount_0f7a4_49 (by decide) ?_
  refine px_iand dJ6_bitCount_0f7a4_51 ?_
  refine px_iret dJ6_bitCount_0f7a4_52 rfl rfl rfl ⟨congrArg (fun z => some (Value.int z)) ?_, rfl⟩
  revert hw
  revert w
  decide +kernel
