/-! ===== Sheet ===== -/
abbrev xS : Type := (Nat → Int64) × Int32 × Nat
def shC (E : xE) (k : Nat) (S : xS) : Nat → Option va_E
  | 0 => some (.inr (2, [.ref (k + 1), .int S.2.1, .int (nI S.2.2)]))
  | _ => some (.inl (E.1.2 1, 24, .inr (.inl S.1)))
abbrev SH (E : xE) (h : xHp) (k : Nat) (S : xS) : xHp := putB h k 2 (shC E k S)
section PXSH
variable {E : xE} {M : xM} {Q : Option Value → xHp → Prop} {k n pc : Nat} {lo : List (Option Value)} {r : List Value} {h : xHp} {S : xS} {b : Nat}
theorem SH_obj : SH E h b S b = some (.inr (2, [.ref (b + 1), .int S.2.1, .int (nI S.2.2)])) := putB_0 (by decide)
theorem SH_arr : SH E h b S (b + 1) = some (.inl (E.1.2 1, 24, .inr (.inl S.1))) := putB_at (j := 1) (by decide)
theorem px_sR {idx : Nat} (hd : decode (xC M) pc = .ok (.getfield idx, 3)) (hl : xFL (xY M).cls idx (TX2 0).1 (TX2 0).2.1 (TX2 0).2.2.1) (kk : PW E M Q k n (pc + 3) lo (.ref (b + 1) :: r) (SH E h b S)) : PW E M Q k n pc lo (.ref b :: r) (SH E h b S) := px_get xk_X2 0 hd hl SH_obj (by decide) rfl kk
theorem px_sL {idx : Nat} (hd : decode (xC M) pc = .ok (.getfield idx, 3)) (hl : xFL (xY M).cls idx (TX2 1).1 (TX2 1).2.1 (TX2 1).2.2.1) (kk : PW E M Q k n (pc + 3) lo (.int S.2.1 :: r) (SH E h b S)) : PW E M Q k n pc lo (.ref b :: r) (SH E h b S) := px_get xk_X2 1 hd hl SH_obj (by decide) rfl kk
theorem px_sZ {idx : Nat} (hd : decode (xC M) pc = .ok (.getfield idx, 3)) (hl : xFL (xY M).cls idx (TX2 2).1 (TX2 2).2.1 (TX2 2).2.2.1) (kk : PW E M Q k n (pc + 3) lo (.int (nI S.2.2) :: r) (SH E h b S)) : PW E M Q k n pc lo (.ref b :: r) (SH E h b S) := px_get xk_X2 2 hd hl SH_obj (by decide) rfl kk
theorem sh_up0 {v : Int32} {z : Nat} : va_up (SH E h b S) b (some (.inr (2, [.ref (b + 1), .int v, .int (nI z)]))) = SH E h b (S.1, v, z) := by
  have e0 : va_up (SH E h b S) b (some (.inr (2, [.ref (b + 1), .int v, .int (nI z)]))) = va_up (SH E h b S) (b + 0) (some (.inr (2, [.ref (b + 1), .int v, .int (nI z)]))) := rfl
  rw [e0]
  unfold SH
  rw [putB_up (by omega)]
  refine putB_congr (fun q hq => ?_)
  match q, hq with
  | 0, _ => rw [va_up_self]; rfl
  | 1, _ => rw [va_up_ne _ _ (by omega)]; rfl
theorem px_sPL {idx : Nat} {v : Int32} (hd : decode (xC M) pc = .ok (.putfield idx, 3)) (hl : xFL (xY M).cls idx (TX2 1).1 (TX2 1).2.1 (TX2 1).2.2.1) (kk : PW E M Q k n (pc + 3) lo r (SH E h b (S.1, v, S.2.2))) : PW E M Q k n pc lo (.int v :: .ref b :: r) (SH E h b S) := by
  refine px_put xk_X2 1 hd hl SH_obj (by decide) (by show 1 < 3; decide) rfl rfl rfl ?_
  exact px_heap sh_up0 kk
theorem px_sPZ {idx z : Nat} (hd : decode (xC M) pc = .ok (.putfield idx, 3)) (hl : xFL (xY M).cls idx (TX2 2).1 (TX2 2).2.1 (TX2 2).2.2.1) (kk : PW E M Q k n (pc + 3) lo r (SH E h b (S.1, S.2.1, z))) : PW E M Q k n pc lo (.int (nI z) :: .ref b :: r) (SH E h b S) := by
  refine px_put xk_X2 2 hd hl SH_obj (by decide) (by show 2 < 3; decide) rfl rfl rfl ?_
  exact px_heap sh_up0 kk
theorem px_sLd {i : Nat} (hd : decode (xC M) pc = .ok (.laload, 1)) (hi : i < 24) (kk : PW E M Q k n (pc + 1) lo (.long (S.1 i) :: r) (SH E h b S)) : PW E M Q k n pc lo (.int (nI i) :: .ref (b + 1) :: r) (SH E h b S) := by
  refine px_lald hd SH_arr (vp_in_nI hi (by decide)) ?_
  rw [nI_clamp (by omega)]
  exact kk
theorem sh_up1 {f : Nat → Int64} : va_up (SH E h b S) (b + 1) (some (.inl (E.1.2 1, 24, .inr (.inl f)))) = SH E h b (f, S.2) := by
  unfold SH
  rw [putB_up (by omega)]
  refine putB_congr (fun q hq => ?_)
  match q, hq with
  | 0, _ => rw [va_up_ne _ _ (by omega)]; rfl
  | 1, _ => rw [va_up_self]; rfl
theorem px_sSt {i : Nat} {x : Int64} (hd : decode (xC M) pc = .ok (.lastore, 1)) (hi : i < 24) (kk : PW E M Q k n (pc + 1) lo r (SH E h b (vp_updL S.1 i x, S.2))) : PW E M Q k n pc lo (.long x :: .int (nI i) :: .ref (b + 1) :: r) (SH E h b S) := by
  refine px_last hd SH_arr (vp_in_nI hi (by decide)) ?_
  rw [nI_clamp (by omega)]
  exact px_heap sh_up1 kk
end PXSH
def scut (L : Int32) (v : Int64) : Int64 := if L = nI 0 then v.toInt32.toInt8.toInt32.toInt64 else if L = nI 1 then v.toInt32.toInt16.toInt32.toInt64 else if L = nI 2 then v.toInt32.toInt64 else v
def sput (S : xS) (i : Nat) (v : Int64) : xS := (vp_updL S.1 i (scut S.2.1 v), S.2)
def shold (S : xS) (i n : Int32) : Bool := decide (0 ≤ i ∧ 0 ≤ n ∧ i ≤ nI S.2.2 - n)
def sref (S : xS) (L i n : Int32) : Int32 := if S.2.1 = -1 then -11 else if S.2.1 = L then (if shold S i n then nI 0 else -13) else -12
def szero (k : Nat) (f : Nat → Int64) : Nat → Int64 := fun i => if i < k then 0 else f i
set_option maxHeartbeats 4000000 in
set_option maxRecDepth 100000 in
theorem c_X2_end {E : xE} {h : xHp} {b : Nat} {S : xS} : PMV E mX2_end [.ref b] (SH E h b S) (SH E h b (S.1, -1, 0)) := by
  refine pm_of [some (.ref b)] (by decide +kernel) (Nat.le_of_ble_eq_true rfl) rfl ?_
  refine px_aload_n dX2_end_0 rfl ?_
  refine px_iconst (v := -1) dX2_end_1 (by decide) ?_
  refine px_sPL dX2_end_2 (Or.inl fl_X2_15) ?_
  refine px_aload_n dX2_end_5 rfl ?_
  refine px_iconst (v := nI 0) dX2_end_6 (by decide) ?_
  refine px_sPZ dX2_end_7 (Or.inl fl_X2_19) ?_
  exact px_vret dX2_end_10 rfl rfl rfl ⟨rfl, rfl⟩
theorem szero_s (k : Nat) (f : Nat → Int64) : vp_updL (szero k f) k (lN 0) = szero (k + 1) f := by
  funext i
  unfold vp_updL szero
  by_cases h : i = k
  · subst h; rw [if_pos rfl, if_pos (by omega)]; rfl
  · rw [if_neg h]
    by_cases h2 : i < k
    · rw [if_pos h2, if_pos (by omega)]
    · rw [if_neg h2, if_neg (by omega)]
set_option maxHeartbeats 4000000 in
set_option maxRecDepth 100000 in
theorem l_X2_begin {E : xE} {h : xHp} {b : Nat} {S : xS} (L : Int32) (z : Nat) : ∀ (n i : Nat), i ≤ 24 → 25 ≤ i + n → PW E mX2_begin (fun v h1 => v = none ∧ h1 = SH E h b (szero 24 S.1, L, z)) 0 0 2 [some (.ref b), some (.int L), some (.int (nI z)), some (.int (nI i))] [] (SH E h b (szero i S.1, S.2)) := by
  intro n
  induction n with
  | zero =>
    intro i h1 h2
    omega
  | succ n ih =>
    intro i h1 h2
    refine px_iload_n dX2_begin_2 rfl ?_
    refine px_bipush (v := nI 24) dX2_begin_3 (by decide) ?_
    refine px_icmp_geN 21 dX2_begin_5 (by decide) (by omega) (by omega) (fun c5 => ?_) (fun c5 => ?_)
    · refine px_aload_n dX2_begin_21 rfl ?_
      refine px_iload_n dX2_begin_22 rfl ?_
      refine px_sPL dX2_begin_23 (Or.inl fl_X2_15) ?_
      refine px_aload_n dX2_begin_26 rfl ?_
      refine px_iload_n dX2_begin_27 rfl ?_
      refine px_sPZ dX2_begin_28 (Or.inl fl_X2_19) ?_
      have hi : i = 24 := by omega
      subst hi
      exact px_vret dX2_begin_31 rfl rfl rfl ⟨rfl, rfl⟩
    · refine px_aload_n dX2_begin_8 rfl ?_
      refine px_sR dX2_begin_9 (Or.inl fl_X2_9) ?_
      refine px_iload_n dX2_begin_12 rfl ?_
      refine px_lconst (v := lN 0) dX2_begin_13 (by decide) ?_
      refine px_sSt dX2_begin_14 (by omega) ?_
      refine px_inc_3 dX2_begin_15 rfl (nI_1 _) (by decide) rfl ?_
      refine px_goto 2 dX2_begin_18 (by decide) ?_
      refine px_heap (h2 := SH E h b (szero (i + 1) S.1, S.2)) (by rw [← szero_s]) (ih (i + 1) (by omega) (by omega))
set_option maxHeartbeats 4000000 in
set_option maxRecDepth 100000 in
theorem c_X2_begin {E : xE} {h : xHp} {b : Nat} {S : xS} (L : Int32) (z : Nat) : PMV E mX2_begin [.ref b, .int L, .int (nI z)] (SH E h b S) (SH E h b (szero 24 S.1, L, z)) := by
  refine pm_of [some (.ref b), some (.int L), some (.int (nI z)), none] (by decide +kernel) (Nat.le_of_ble_eq_true rfl) rfl ?_
  refine px_iconst (v := nI 0) dX2_begin_0 (by decide) ?_
  refine px_istn_3 dX2_begin_1 (by decide) rfl ?_
  exact px_heap (by rw [show szero 0 S.1 = S.1 from by funext i; simp [szero]]) (l_X2_begin L z 25 0 (by omega) (by omega))
set_option maxHeartbeats 4000000 in
set_option maxRecDepth 100000 in
theorem c_X2_holds {E : xE} {h : xHp} {b : Nat} {S : xS} (i n : Int32) : PMI E mX2_holds [.ref b, .int i, .int n] (SH E h b S) (bI (shold S i n)) (SH E h b S) := by
  refine pm_of [some (.ref b), some (.int i), some (.int n)] (by decide +kernel) (Nat.le_of_ble_eq_true rfl) rfl ?_
  refine px_iload_n dX2_holds_0 rfl ?_
  refine px_if_lt 22 dX2_holds_1 (by decide) (fun c1 => ?_) (fun c1 => ?_)
  · refine px_iconst (v := nI 0) dX2_holds_22 (by decide) ?_
    exact px_bret (b := shold S i n) dX2_holds_23 rfl rfl rfl (by rw [show shold S i n = false from decide_eq_false (fun q => absurd c1 (Int32.not_lt.mpr q.1))]; rfl) ⟨rfl, rfl⟩
  · refine px_iload_n dX2_holds_4 rfl ?_
    refine px_if_lt 22 dX2_holds_5 (by decide) (fun c5 => ?_) (fun c5 => ?_)
    · refine px_iconst (v := nI 0) dX2_holds_22 (by decide) ?_
      exact px_bret (b := shold S i n) dX2_holds_23 rfl rfl rfl (by rw [show shold S i n = false from decide_eq_false (fun q => absurd c5 (Int32.not_lt.mpr q.2.1))]; rfl) ⟨rfl, rfl⟩
    · refine px_iload_n dX2_holds_8 rfl ?_
      refine px_aload_n dX2_holds_9 rfl ?_
      refine px_sZ dX2_holds_10 (Or.inl fl_X2_19) ?_
      refine px_iload_n dX2_holds_13 rfl ?_
      refine px_isub dX2_holds_14 ?_
      refine px_icmp_gt 22 dX2_holds_15 (by decide) (fun c15 => ?_) (fun c15 => ?_)
      · refine px_iconst (v := nI 0) dX2_holds_22 (by decide) ?_
        exact px_bret (b := shold S i n) dX2_holds_23 rfl rfl rfl (by rw [show shold S i n = false from decide_eq_false (fun q => absurd c15 (Int32.not_lt.mpr q.2.2))]; rfl) ⟨rfl, rfl⟩
      · refine px_iconst (v := nI 1) dX2_holds_18 (by decide) ?_
        refine px_goto 23 dX2_holds_19 (by decide) ?_
        exact px_bret (b := shold S i n) dX2_holds_23 rfl rfl rfl (by rw [show shold S i n = true from decide_eq_true ⟨Int32.not_lt.mp c1, Int32.not_lt.mp c5, Int32.not_lt.mp c15⟩]; rfl) ⟨rfl, rfl⟩
set_option maxHeartbeats 4000000 in
set_option maxRecDepth 100000 in
theorem c_X2_refusal {E : xE} {h : xHp} {b : Nat} {S : xS} (L i n : Int32) : PMI E mX2_refusal [.ref b, .int L, .int i, .int n] (SH E h b S) (sref S L i n) (SH E h b S) := by
  refine pm_of [some (.ref b), some (.int L), some (.int i), some (.int n)] (by decide +kernel) (Nat.le_of_ble_eq_true rfl) rfl ?_
  refine px_aload_n dX2_refusal_0 rfl ?_
  refine px_sL dX2_refusal_1 (Or.inl fl_X2_15) ?_
  refine px_iconst (v := -1) dX2_refusal_4 (by decide) ?_
  refine px_icmp_ne 11 dX2_refusal_5 (by decide) (fun c5 => ?_) (fun c5 => ?_)
  · refine px_aload_n dX2_refusal_11 rfl ?_
    refine px_sL dX2_refusal_12 (Or.inl fl_X2_15) ?_
    refine px_iload_n dX2_refusal_15 rfl ?_
    refine px_icmp_eq 22 dX2_refusal_16 (by decide) (fun c16 => ?_) (fun c16 => ?_)
    · refine px_aload_n dX2_refusal_22 rfl ?_
      refine px_iload_n dX2_refusal_23 rfl ?_
      refine px_iload_n dX2_refusal_24 rfl ?_
      refine px_vi (M2 := mX2_holds) (c_X2_holds i n) mw_X2_holds wm_X2_holds we_X2_holds (Or.inl ml_X2_22) dX2_refusal_25 (SH_obj) rfl (by decide) rfl rfl (Nat.le_of_ble_eq_true rfl) ⟨rfl, rfl⟩ ?_
      refine px_if_eqB 35 dX2_refusal_28 (by decide) (fun c28 => ?_) (fun c28 => ?_)
      · refine px_bipush (v := -13) dX2_refusal_35 (by decide) ?_
        exact px_iret dX2_refusal_37 rfl rfl rfl ⟨by rw [sref, if_neg c5, if_pos c16, if_neg (by simp [c28])], rfl⟩
      · refine px_iconst (v := nI 0) dX2_refusal_31 (by decide) ?_
        refine px_goto 37 dX2_refusal_32 (by decide) ?_
        exact px_iret dX2_refusal_37 rfl rfl rfl ⟨by rw [sref, if_neg c5, if_pos c16, if_pos c28], rfl⟩
    · refine px_bipush (v := -12) dX2_refusal_19 (by decide) ?_
      exact px_iret dX2_refusal_21 rfl rfl rfl ⟨by rw [sref, if_neg c5, if_neg c16], rfl⟩
  · refine px_bipush (v := -11) dX2_refusal_8 (by decide) ?_
    exact px_iret dX2_refusal_10 rfl rfl rfl ⟨by rw [sref, if_pos c5], rfl⟩
set_option maxHeartbeats 4000000 in
set_option maxRecDepth 100000 in
theorem c_X2_put {E : xE} {h : xHp} {b : Nat} {S : xS} (l i : Nat) (v : Int64) (hl : l < 4) (hL : S.2.1 = nI l) (hi : i < 24) : PMV E mX2_put [.ref b, .int (nI i), .long v] (SH E h b S) (SH E h b (sput S i v)) := by
  refine pm_of [some (.ref b), some (.int (nI i)), some (.long v), none] (by decide +kernel) (Nat.le_of_ble_eq_true rfl) rfl ?_
  refine px_aload_n dX2_put_0 rfl ?_
  refine px_sL dX2_put_1 (Or.inl fl_X2_15) ?_
  have hll : l = 0 ∨ l = 1 ∨ l = 2 ∨ l = 3 := by omega
  refine px_topi hL ?_
  rcases hll with h0 | h0 | h0 | h0
  · subst h0
    refine px_tabIn 32 dX2_put_4 (by decide) (by decide) rfl (by decide) ?_
    refine px_aload_n dX2_put_32 rfl ?_
    refine px_sR dX2_put_33 (Or.inl fl_X2_9) ?_
    refine px_iload_n dX2_put_36 rfl ?_
    refine px_lload_n dX2_put_37 rfl ?_
    refine px_l2i dX2_put_38 ?_
    refine px_i2b dX2_put_39 ?_
    refine px_i2l dX2_put_40 ?_
    refine px_sSt dX2_put_41 (by omega) ?_
    refine px_goto 77 dX2_put_42 (by decide) ?_
    exact px_vret dX2_put_77 rfl rfl rfl ⟨rfl, by rw [sput, hL, scut, if_pos rfl]⟩
  · subst h0
    refine px_tabIn 45 dX2_put_4 (by decide) (by decide) rfl (by decide) ?_
    refine px_aload_n dX2_put_45 rfl ?_
    refine px_sR dX2_put_46 (Or.inl fl_X2_9) ?_
    refine px_iload_n dX2_put_49 rfl ?_
    refine px_lload_n dX2_put_50 rfl ?_
    refine px_l2i dX2_put_51 ?_
    refine px_i2s dX2_put_52 ?_
    refine px_i2l dX2_put_53 ?_
    refine px_sSt dX2_put_54 (by omega) ?_
    refine px_goto 77 dX2_put_55 (by decide) ?_
    exact px_vret dX2_put_77 rfl rfl rfl ⟨rfl, by rw [sput, hL, scut, if_neg (by decide), if_pos rfl]⟩
  · subst h0
    refine px_tabIn 58 dX2_put_4 (by decide) (by decide) rfl (by decide) ?_
    refine px_aload_n dX2_put_58 rfl ?_
    refine px_sR dX2_put_59 (Or.inl fl_X2_9) ?_
    refine px_iload_n dX2_put_62 rfl ?_
    refine px_lload_n dX2_put_63 rfl ?_
    refine px_l2i dX2_put_64 ?_
    refine px_i2l dX2_put_65 ?_
    refine px_sSt dX2_put_66 (by omega) ?_
    refine px_goto 77 dX2_put_67 (by decide) ?_
    exact px_vret dX2_put_77 rfl rfl rfl ⟨rfl, by rw [sput, hL, scut, if_neg (by decide), if_neg (by decide), if_pos rfl]⟩
  · subst h0
    refine px_tabOut 70 dX2_put_4 (by decide) (by decide) ?_
    refine px_aload_n dX2_put_70 rfl ?_
    refine px_sR dX2_put_71 (Or.inl fl_X2_9) ?_
    refine px_iload_n dX2_put_74 rfl ?_
    refine px_lload_n dX2_put_75 rfl ?_
    refine px_sSt dX2_put_76 (by omega) ?_
    exact px_vret dX2_put_77 rfl rfl rfl ⟨rfl, by rw [sput, hL, scut, if_neg (by decide), if_neg (by decide), if_neg (by decide)]⟩
