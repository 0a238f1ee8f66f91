theorem bit_and1 (x : Nat) : x &&& 1 = x % 2 := by
  have := Nat.and_two_pow_sub_one_eq_mod x 1
  simpa using this
theorem tb_div (x a : Nat) : x.testBit a = decide (x / 2 ^ a % 2 = 1) := by
  rw [Nat.testBit_eq_decide_div_mod_eq]
def hbit (x : Int32) (i : Nat) : Bool := decide ((x >>> (nI i &&& 31)) &&& nI 1 = nI 1)
theorem hbit_n {w i : Nat} (hw : w < 2 ^ 31) (hi : i < 32) : hbit (nI w) i = w.testBit i := by
  unfold hbit
  rw [nx_shr hw hi, nx_and, bit_and1, tb_div]
  have h2 : w / 2 ^ i % 2 < 2 ^ 31 := by omega
  by_cases h : w / 2 ^ i % 2 = 1
  · rw [h]; simp
  · have : nI (w / 2 ^ i % 2) ≠ nI 1 := fun e => h ((nI_eq h2 (by decide)).mp e)
    simp [h, this]
def oI : Option Nat → Int32
  | none => -4
  | some a => nI a
/-- a town's numbers are small -/
def tOK (T : xT) : Prop := (T.2 0 ≤ 6 ∧ T.2 1 ≤ 4 ∧ T.2 2 < 64 ∧ T.2 3 < 64 ∧ T.2 4 < 2 ^ 30 ∧ T.2 5 ≤ 99 ∧ T.2 6 < 2 ^ 31) ∧ (∀ i, T.1 0 i ≤ 4) ∧ (∀ i, T.1 1 i ≤ 3) ∧ (∀ i, T.1 2 i ≤ 99) ∧ (∀ i, T.1 3 i ≤ 9) ∧ (∀ i, T.1 4 i ≤ 9) ∧ (∀ i, T.1 5 i ≤ 4)
theorem tOK.lt {T : xT} (h : tOK T) {j i : Nat} (hj : j < 6) : T.1 j i < 2 ^ 31 := by
  obtain ⟨-, h0, h1, h2, h3, h4, h5⟩ := h
  match j, hj with
  | 0, _ => have := h0 i; omega
  | 1, _ => have := h1 i; omega
  | 2, _ => have := h2 i; omega
  | 3, _ => have := h3 i; omega
  | 4, _ => have := h4 i; omega
  | 5, _ => have := h5 i; omega
theorem tOK.lts {T : xT} (h : tOK T) {j : Nat} (hj : j < 7) : T.2 j < 2 ^ 31 := by
  obtain ⟨⟨h0, h1, h2, h3, h4, h5, h6⟩, -⟩ := h
  match j, hj with
  | 0, _ => omega
  | 1, _ => omega
  | 2, _ => omega
  | 3, _ => omega
  | 4, _ => omega
  | 5, _ => omega
  | 6, _ => omega
/-- may a thief rob one -/
def tmay (T : xT) (t a : Nat) : Bool := ((T.2 2).testBit a && !(T.2 3).testBit a) && (decide (T.1 3 a ≤ T.1 4 t) && (decide (T.1 5 t = 4) || decide (T.1 5 t = T.1 1 a)))
/-- whom a thief robs of the first n, once those of rob were robbed -/
def tvic (T : xT) (t rob : Nat) : Nat → Option Nat
  | 0 => none
  | n + 1 => if (!rob.testBit n && tmay T t n) && (match tvic T t rob n with | none => true | some b => decide (T.1 2 b < T.1 2 n)) then some n else tvic T t rob n
/-- who is robbed by the first n thieves, those of hm at home -/
def trob (T : xT) (hm : Nat → Bool) : Nat → Nat
  | 0 => 0
  | n + 1 => if hm n then trob T hm n else match tvic T n (trob T hm n) (T.2 0) with | none => trob T hm n | some a => trob T hm n ||| 2 ^ a
theorem tvic_lt {T : xT} {t rob : Nat} : ∀ {n a : Nat}, tvic T t rob n = some a → a < n
  | 0, _, h => by cases h
  | n + 1, a, h => by
    rw [tvic] at h
    by_cases hc : ((!rob.testBit n && tmay T t n) && (match tvic T t rob n with | none => true | some b => decide (T.1 2 b < T.1 2 n))) = true
    · rw [if_pos hc] at h
      cases h; omega
    · rw [if_neg hc] at h
      have := tvic_lt h; omega
theorem tvic_yes {T : xT} {t rob n : Nat} (h1 : rob.testBit n = false) (h2 : tmay T t n = true) (h3 : tvic T t rob n = none ∨ ∃ b, tvic T t rob n = some b ∧ T.1 2 b < T.1 2 n) : tvic T t rob (n + 1) = some n := by
  rw [tvic]
  rcases h3 with h3 | ⟨b, h3, h4⟩
  · simp [h1, h2, h3]
  · simp [h1, h2, h3, h4]
theorem tvic_no {T : xT} {t rob n : Nat} (h : rob.testBit n = true ∨ tmay T t n = false ∨ ∃ b, tvic T t rob n = some b ∧ T.1 2 n ≤ T.1 2 b) : tvic T t rob (n + 1) = tvic T t rob n := by
  rw [tvic]
  rcases h with h | h | ⟨b, h3, h4⟩
  · simp [h]
  · simp [h]
  · simp [h3, Nat.not_lt.mpr h4]
theorem or_lt64 {x a : Nat} (h : x < 64) (ha : a < 6) : x ||| 2 ^ a < 64 := by
  have : 2 ^ a < 2 ^ 6 := Nat.pow_lt_pow_right (by omega) ha
  exact Nat.or_lt_two_pow (n := 6) h this
theorem trob_lt {T : xT} {hm : Nat → Bool} (h : T.2 0 ≤ 6) : ∀ n, trob T hm n < 64
  | 0 => by rw [trob]; decide
  | n + 1 => by
    rw [trob]
    split
    · exact trob_lt h n
    · split
      · exact trob_lt h n
      · rename_i a ha
        have := tvic_lt ha
        exact or_lt64 (trob_lt h n) (by omega)
theorem may_bits {sh sw a : Nat} (ha : a < 31) : ((nI sh &&& (nI sw ^^^ (-1))) &&& nI (2 ^ a) = 0) ↔ (sh.testBit a && !sw.testBit a) = false := by
  have h1 : ((nI sh &&& (nI sw ^^^ (-1))) &&& nI (2 ^ a) = 0) ↔ (((nI sh &&& (nI sw ^^^ (-1))) &&& nI (2 ^ a)).toBitVec = 0#32) := ⟨fun h => by rw [h]; rfl, fun h => i32_ext h⟩
  rw [h1, Int32.toBitVec_and, Int32.toBitVec_and, Int32.toBitVec_xor, nI_bv, nI_bv, nI_bv]
  have e1 : (-1 : Int32).toBitVec = BitVec.allOnes 32 := by decide
  have e2 : BitVec.ofNat 32 (2 ^ a) = BitVec.twoPow 32 a := by
    apply BitVec.eq_of_toNat_eq
    rw [BitVec.toNat_ofNat, BitVec.toNat_twoPow]
  rw [e1, e2]
  have g : (BitVec.ofNat 32 sh &&& (BitVec.ofNat 32 sw ^^^ BitVec.allOnes 32)).getLsbD a = (sh.testBit a && !sw.testBit a) := by
    rw [BitVec.getLsbD_and, BitVec.getLsbD_xor, BitVec.getLsbD_ofNat, BitVec.getLsbD_ofNat, BitVec.getLsbD_allOnes]
    simp [show a < 32 by omega]
  have tp : ∀ l, l < 32 → BitVec.twoPow 32 l ≠ 0#32 := by decide +kernel
  rw [BitVec.and_twoPow, g]
  cases hg : (sh.testBit a && !sw.testBit a)
  · simp
  · rw [if_pos rfl]
    exact ⟨fun q => absurd q (tp a (by omega)), fun q => by cases q⟩
set_option maxHeartbeats 4000000 in
set_option maxRecDepth 100000 in
theorem c_X5_has {E : xE} {h : xHp} (x : Int32) (i : Nat) : PMI E mX5_has [.int x, .int (nI i)] h (bI (hbit x i)) h := by
  refine pm_of [some (.int x), some (.int (nI i))] (by decide +kernel) (Nat.le_of_ble_eq_true rfl) rfl ?_
  refine px_iload_n dX5_has_0 rfl ?_
  refine px_iload_n dX5_has_1 rfl ?_
  refine px_ishr dX5_has_2 ?_
  refine px_iconst (v := nI 1) dX5_has_3 (by decide) ?_
  refine px_iand dX5_has_4 ?_
  refine px_iconst (v := nI 1) dX5_has_5 (by decide) ?_
  refine px_icmp_ne 13 dX5_has_6 (by decide) (fun c6 => ?_) (fun c6 => ?_)
  · refine px_iconst (v := nI 0) dX5_has_13 (by decide) ?_
    have hm : hbit x i = false := by first | (simp [hbit, c6]; done) | (simp only [hbit, decide_eq_false_iff_not]; exact c6)
    exact px_bret (b := hbit x i) dX5_has_14 rfl rfl rfl (by rw [hm]; rfl) ⟨rfl, rfl⟩
  · refine px_iconst (v := nI 1) dX5_has_9 (by decide) ?_
    refine px_goto 14 dX5_has_10 (by decide) ?_
    have hm : hbit x i = true := by first | (simp [hbit, c6]; done) | (simp only [hbit, decide_eq_false_iff_not]; exact c6)
    exact px_bret (b := hbit x i) dX5_has_14 rfl rfl rfl (by rw [hm]; rfl) ⟨rfl, rfl⟩
theorem c_X5_has_n {E : xE} {h : xHp} (w i : Nat) (hw : w < 2 ^ 31) (hi : i < 32) : PMI E mX5_has [.int (nI w), .int (nI i)] h (bI (w.testBit i)) h := by
  rw [← hbit_n hw hi]
  exact c_X5_has (nI w) i
section
variable {E : xE} {M : xM} {Q : Option Value → xHp → Prop} {k n pc : Nat} {lo : List (Option Value)} {r : List Value} {h : xHp}
theorem px_if_eqX {b : Bool} {x : Int32} (hx : x = 0 ↔ b = false) {off : Int} (tgt : Nat) (hd : decode (xC M) pc = .ok (.ifCond .eq off, 3)) (ht : (pc : Int) + off = (tgt : Int)) (kt : b = false → PW E M Q k n tgt lo r h) (kf : b = true → PW E M Q k n (pc + 3) lo r h) : PW E M Q k n pc lo (.int x :: r) h := px_if_eq tgt hd ht (fun z => kt (hx.mp z)) (fun z => kf (by cases b with | false => exact absurd (hx.mpr rfl) z | true => rfl))
theorem px_if_neX {b : Bool} {x : Int32} (hx : x = 0 ↔ b = false) {off : Int} (tgt : Nat) (hd : decode (xC M) pc = .ok (.ifCond .ne off, 3)) (ht : (pc : Int) + off = (tgt : Int)) (kt : b = true → PW E M Q k n tgt lo r h) (kf : b = false → PW E M Q k n (pc + 3) lo r h) : PW E M Q k n pc lo (.int x :: r) h := px_if_ne tgt hd ht (fun z => kt (by cases b with | false => exact absurd (hx.mpr rfl) z | true => rfl)) (fun z => kf (hx.mp z))
end
set_option maxHeartbeats 4000000 in
set_option maxRecDepth 100000 in
theorem c_X4_mayRob {E : xE} {h : xHp} {b : Nat} {T : xT} (hOK : tOK T) (t a : Nat) (ht : t < 4) (ha : a < 6) : PMI E mX4_mayRob [.ref b, .int (nI t), .int (nI a)] (TH E h b T) (bI (tmay T t a)) (TH E h b T) := by
  refine pm_of [some (.ref b), some (.int (nI t)), some (.int (nI a)), none] (by decide +kernel) (Nat.le_of_ble_eq_true rfl) rfl ?_
  refine px_aload_n dX4_mayRob_0 rfl ?_
  refine px_tS 2 dX4_mayRob_1 (Or.inl fl_X4_49) (by decide) ?_
  refine px_aload_n dX4_mayRob_4 rfl ?_
  refine px_tS 3 dX4_mayRob_5 (Or.inl fl_X4_52) (by decide) ?_
  refine px_iconst (v := -1) dX4_mayRob_8 (by decide) ?_
  refine px_ixor dX4_mayRob_9 ?_
  refine px_iand dX4_mayRob_10 ?_
  refine px_iconst (v := nI 1) dX4_mayRob_11 (by decide) ?_
  refine px_iload_n dX4_mayRob_12 rfl ?_
  refine px_ishl1 dX4_mayRob_13 (by omega) ?_
  refine px_iand dX4_mayRob_14 ?_
  refine px_if_eqX (b := (T.2 2).testBit a && !(T.2 3).testBit a) (may_bits (by omega)) 22 dX4_mayRob_15 (by decide) (fun c15 => ?_) (fun c15 => ?_)
  · refine px_iconst (v := nI 0) dX4_mayRob_22 (by decide) ?_
    refine px_istn_3 dX4_mayRob_23 (by decide) rfl ?_
    refine px_iload_n dX4_mayRob_24 rfl ?_
    refine px_if_eq 72 dX4_mayRob_25 (by decide) (fun _ => ?_) (fun z => absurd z (by decide))
    refine px_iconst (v := nI 0) dX4_mayRob_72 (by decide) ?_
    have hm : tmay T t a = false := by first | (simp_all [tmay]; done) | (simp_all [tmay]; omega)
    exact px_bret (b := tmay T t a) dX4_mayRob_73 rfl rfl rfl (by rw [hm]; rfl) ⟨rfl, rfl⟩
  · refine px_iconst (v := nI 1) dX4_mayRob_18 (by decide) ?_
    refine px_goto 23 dX4_mayRob_19 (by decide) ?_
    refine px_istn_3 dX4_mayRob_23 (by decide) rfl ?_
    refine px_iload_n dX4_mayRob_24 rfl ?_
    refine px_if_eq 72 dX4_mayRob_25 (by decide) (fun z => absurd z (by decide)) (fun _ => ?_)
    refine px_aload_n dX4_mayRob_28 rfl ?_
    refine px_tR 3 dX4_mayRob_29 (Or.inl fl_X4_21) (by decide) ?_
    refine px_iload_n dX4_mayRob_32 rfl ?_
    refine px_tL 3 dX4_mayRob_33 (by decide) (by show _ < 6; omega) ?_
    refine px_aload_n dX4_mayRob_34 rfl ?_
    refine px_tR 4 dX4_mayRob_35 (Or.inl fl_X4_24) (by decide) ?_
    refine px_iload_n dX4_mayRob_38 rfl ?_
    refine px_tL 4 dX4_mayRob_39 (by decide) (by show _ < 4; omega) ?_
    refine px_icmp_gtN 72 dX4_mayRob_40 (by decide) (by first | omega | exact hOK.lt (by decide) | exact hOK.lts (by decide)) (by first | omega | exact hOK.lt (by decide) | exact hOK.lts (by decide)) (fun c40 => ?_) (fun c40 => ?_)
    · refine px_iconst (v := nI 0) dX4_mayRob_72 (by decide) ?_
      have hm : tmay T t a = false := by first | (simp_all [tmay]; done) | (simp_all [tmay]; omega)
      exact px_bret (b := tmay T t a) dX4_mayRob_73 rfl rfl rfl (by rw [hm]; rfl) ⟨rfl, rfl⟩
    · refine px_aload_n dX4_mayRob_43 rfl ?_
      refine px_tR 5 dX4_mayRob_44 (Or.inl fl_X4_27) (by decide) ?_
      refine px_iload_n dX4_mayRob_47 rfl ?_
      refine px_tL 5 dX4_mayRob_48 (by decide) (by show _ < 4; omega) ?_
      refine px_iconst (v := nI 4) dX4_mayRob_49 (by decide) ?_
      refine px_icmp_eqN 68 dX4_mayRob_50 (by decide) (by first | omega | exact hOK.lt (by decide) | exact hOK.lts (by decide)) (by first | omega | exact hOK.lt (by decide) | exact hOK.lts (by decide)) (fun c50 => ?_) (fun c50 => ?_)
      · refine px_iconst (v := nI 1) dX4_mayRob_68 (by decide) ?_
        refine px_goto 73 dX4_mayRob_69 (by decide) ?_
        have hm : tmay T t a = true := by first | (simp_all [tmay]; done) | (simp_all [tmay]; omega)
        exact px_bret (b := tmay T t a) dX4_mayRob_73 rfl rfl rfl (by rw [hm]; rfl) ⟨rfl, rfl⟩
      · refine px_aload_n dX4_mayRob_53 rfl ?_
        refine px_tR 5 dX4_mayRob_54 (Or.inl fl_X4_27) (by decide) ?_
        refine px_iload_n dX4_mayRob_57 rfl ?_
        refine px_tL 5 dX4_mayRob_58 (by decide) (by show _ < 4; omega) ?_
        refine px_aload_n dX4_mayRob_59 rfl ?_
        refine px_tR 1 dX4_mayRob_60 (Or.inl fl_X4_15) (by decide) ?_
        refine px_iload_n dX4_mayRob_63 rfl ?_
        refine px_tL 1 dX4_mayRob_64 (by decide) (by show _ < 6; omega) ?_
        refine px_icmp_neN 72 dX4_mayRob_65 (by decide) (by first | omega | exact hOK.lt (by decide) | exact hOK.lts (by decide)) (by first | omega | exact hOK.lt (by decide) | exact hOK.lts (by decide)) (fun c65 => ?_) (fun c65 => ?_)
        · refine px_iconst (v := nI 0) dX4_mayRob_72 (by decide) ?_
          have hm : tmay T t a = false := by first | (simp_all [tmay]; done) | (simp_all [tmay]; omega)
          exact px_bret (b := tmay T t a) dX4_mayRob_73 rfl rfl rfl (by rw [hm]; rfl) ⟨rfl, rfl⟩
        · refine px_iconst (v := nI 1) dX4_mayRob_68 (by decide) ?_
          refine px_goto 73 dX4_mayRob_69 (by decide) ?_
          have hm : tmay T t a = true := by first | (simp_all [tmay]; done) | (simp_all [tmay]; omega)
          exact px_bret (b := tmay T t a) dX4_mayRob_73 rfl rfl rfl (by rw [hm]; rfl) ⟨rfl, rfl⟩
set_option maxHeartbeats 4000000 in
set_option maxRecDepth 100000 in
theorem l_X4_victim {E : xE} {h : xHp} {b : Nat} {T : xT} (hOK : tOK T) (t rob : Nat) (ht : t < 4) (hr : rob < 64) : ∀ (n i : Nat), i ≤ T.2 0 → T.2 0 + 1 ≤ i + n → PW E mX4_victim (fun v h1 => v = some (.int (oI (tvic T t rob (T.2 0)))) ∧ h1 = TH E h b T) 0 0 6 [some (.ref b), some (.int (nI t)), some (.int (nI rob)), some (.int (oI (tvic T t rob i))), some (.int (nI i))] [] (TH E h b T) := by
  have hm := hOK.1.1
  intro n
  induction n with
  | zero =>
    intro i h1 h2
    omega
  | succ n ih =>
    intro i h1 h2
    refine px_iload dX4_victim_6 rfl ?_
    refine px_aload_n dX4_victim_8 rfl ?_
    refine px_tS 0 dX4_victim_9 (Or.inl fl_X4_43) (by decide) ?_
    refine px_icmp_geN 63 dX4_victim_12 (by decide) (by first | omega | exact hOK.lt (by decide) | exact hOK.lts (by decide)) (by first | omega | exact hOK.lt (by decide) | exact hOK.lts (by decide)) (fun c12 => ?_) (fun c12 => ?_)
    · refine px_iload_n dX4_victim_63 rfl ?_
      have hi : i = T.2 0 := by omega
      subst hi
      exact px_iret dX4_victim_64 rfl rfl rfl ⟨rfl, rfl⟩
    · refine px_iload_n dX4_victim_15 rfl ?_
      refine px_iload dX4_victim_16 rfl ?_
      refine px_si (c_X5_has_n rob i (by omega) (by omega)) mw_X5_has wt_X5_has (Or.inr ⟨_, ml_X4_62⟩) dX4_victim_18 (by decide) rfl rfl (Nat.le_of_ble_eq_true rfl) ⟨rfl, rfl⟩ ?_
      refine px_if_neB 57 dX4_victim_21 (by decide) (fun c21 => ?_) (fun c21 => ?_)
      · refine px_inc_4 dX4_victim_57 rfl (nI_1 _) (by decide) rfl ?_
        refine px_goto 6 dX4_victim_60 (by decide) ?_
        refine px_eq (lo2 := [some (.ref b), some (.int (nI t)), some (.int (nI rob)), some (.int (oI (tvic T t rob (i + 1)))), some (.int (nI (i + 1)))]) ?_ rfl rfl (ih (i + 1) (by omega) (by omega))
        first | (rw [tvic_yes c21 c31 (Or.inl hv)]; rfl) | (rw [tvic_yes c21 c31 (Or.inr ⟨bb, hv, c51⟩)]; rfl) | (rw [tvic_no (Or.inl c21)]; done) | (rw [tvic_no (Or.inr (Or.inl c31))]; done) | (rw [tvic_no (Or.inr (Or.inr ⟨bb, hv, c51⟩)), hv]; done)
      · refine px_aload_n dX4_victim_24 rfl ?_
        refine px_iload_n dX4_victim_25 rfl ?_
        refine px_iload dX4_victim_26 rfl ?_
        refine px_vi (M2 := mX4_mayRob) (c_X4_mayRob hOK t i ht (by omega)) mw_X4_mayRob wm_X4_mayRob we_X4_mayRob (Or.inl ml_X4_66) dX4_victim_28 (TH_obj) rfl (by decide) rfl rfl (Nat.le_of_ble_eq_true rfl) ⟨rfl, rfl⟩ ?_
        refine px_if_eqB 57 dX4_victim_31 (by decide) (fun c31 => ?_) (fun c31 => ?_)
        · refine px_inc_4 dX4_victim_57 rfl (nI_1 _) (by decide) rfl ?_
          refine px_goto 6 dX4_victim_60 (by decide) ?_
          refine px_eq (lo2 := [some (.ref b), some (.int (nI t)), some (.int (nI rob)), some (.int (oI (tvic T t rob (i + 1)))), some (.int (nI (i + 1)))]) ?_ rfl rfl (ih (i + 1) (by omega) (by omega))
          first | (rw [tvic_yes c21 c31 (Or.inl hv)]; rfl) | (rw [tvic_yes c21 c31 (Or.inr ⟨bb, hv, c51⟩)]; rfl) | (rw [tvic_no (Or.inl c21)]; done) | (rw [tvic_no (Or.inr (Or.inl c31))]; done) | (rw [tvic_no (Or.inr (Or.inr ⟨bb, hv, c51⟩)), hv]; done)
        · rcases hv : tvic T t rob i with _ | bb
          · refine px_iload_n dX4_victim_34 rfl ?_
            refine px_if_lt 54 dX4_victim_35 (by decide) (fun c35 => ?_) (fun c35 => ?_)
            · first
              | exact absurd c35 (by decide)
              | exact absurd c35 (nI_pos (by omega))
              | (refine px_iload dX4_victim_54 rfl ?_
                 refine px_istn_3 dX4_victim_56 (by decide) rfl ?_
                 refine px_inc_4 dX4_victim_57 rfl (nI_1 _) (by decide) rfl ?_
                 refine px_goto 6 dX4_victim_60 (by decide) ?_
                 refine px_eq (lo2 := [some (.ref b), some (.int (nI t)), some (.int (nI rob)), some (.int (oI (tvic T t rob (i + 1)))), some (.int (nI (i + 1)))]) ?_ rfl rfl (ih (i + 1) (by omega) (by omega))
                 first | (rw [tvic_yes c21 c31 (Or.inl hv)]; rfl) | (rw [tvic_yes c21 c31 (Or.inr ⟨bb, hv, c51⟩)]; rfl) | (rw [tvic_no (Or.inl c21)]; done) | (rw [tvic_no (Or.inr (Or.inl c31))]; done) | (rw [tvic_no (Or.inr (Or.inr ⟨bb, hv, c51⟩)), hv]; done))
            · first
              | exact absurd c35 (by decide)
              | exact absurd c35 (nI_pos (by omega))
              | (refine px_aload_n dX4_victim_38 rfl ?_
                 refine px_tR 2 dX4_victim_39 (Or.inl fl_X4_18) (by decide) ?_
                 refine px_iload dX4_victim_42 rfl ?_
                 refine px_tL 2 dX4_victim_44 (by decide) (by show _ < 6; omega) ?_
                 refine px_aload_n dX4_victim_45 rfl ?_
                 refine px_tR 2 dX4_victim_46 (Or.inl fl_X4_18) (by decide) ?_
                 refine px_iload_n dX4_victim_49 rfl ?_
                 refine px_tL 2 dX4_victim_50 (by decide) (by show _ < 6; omega) ?_
                 refine px_icmp_leN 57 dX4_victim_51 (by decide) (by first | omega | exact hOK.lt (by decide) | exact hOK.lts (by decide)) (by first | omega | exact hOK.lt (by decide) | exact hOK.lts (by decide)) (fun c51 => ?_) (fun c51 => ?_)
                 · refine px_inc_4 dX4_victim_57 rfl (nI_1 _) (by decide) rfl ?_
                   refine px_goto 6 dX4_victim_60 (by decide) ?_
                   refine px_eq (lo2 := [some (.ref b), some (.int (nI t)), some (.int (nI rob)), some (.int (oI (tvic T t rob (i + 1)))), some (.int (nI (i + 1)))]) ?_ rfl rfl (ih (i + 1) (by omega) (by omega))
                   first | (rw [tvic_yes c21 c31 (Or.inl hv)]; rfl) | (rw [tvic_yes c21 c31 (Or.inr ⟨bb, hv, c51⟩)]; rfl) | (rw [tvic_no (Or.inl c21)]; done) | (rw [tvic_no (Or.inr (Or.inl c31))]; done) | (rw [tvic_no (Or.inr (Or.inr ⟨bb, hv, c51⟩)), hv]; done)
                 · refine px_iload dX4_victim_54 rfl ?_
                   refine px_istn_3 dX4_victim_56 (by decide) rfl ?_
                   refine px_inc_4 dX4_victim_57 rfl (nI_1 _) (by decide) rfl ?_
                   refine px_goto 6 dX4_victim_60 (by decide) ?_
                   refine px_eq (lo2 := [some (.ref b), some (.int (nI t)), some (.int (nI rob)), some (.int (oI (tvic T t rob (i + 1)))), some (.int (nI (i + 1)))]) ?_ rfl rfl (ih (i + 1) (by omega) (by omega))
                   first | (rw [tvic_yes c21 c31 (Or.inl hv)]; rfl) | (rw [tvic_yes c21 c31 (Or.inr ⟨bb, hv, c51⟩)]; rfl) | (rw [tvic_no (Or.inl c21)]; done) | (rw [tvic_no (Or.inr (Or.inl c31))]; done) | (rw [tvic_no (Or.inr (Or.inr ⟨bb, hv, c51⟩)), hv]; done))
          · have hbb := tvic_lt hv
            refine px_iload_n dX4_victim_34 rfl ?_
            refine px_if_lt 54 dX4_victim_35 (by decide) (fun c35 => ?_) (fun c35 => ?_)
            · first
              | exact absurd c35 (by decide)
              | exact absurd c35 (nI_pos (by omega))
              | (refine px_iload dX4_victim_54 rfl ?_
                 refine px_istn_3 dX4_victim_56 (by decide) rfl ?_
                 refine px_inc_4 dX4_victim_57 rfl (nI_1 _) (by decide) rfl ?_
                 refine px_goto 6 dX4_victim_60 (by decide) ?_
                 refine px_eq (lo2 := [some (.ref b), some (.int (nI t)), some (.int (nI rob)), some (.int (oI (tvic T t rob (i + 1)))), some (.int (nI (i + 1)))]) ?_ rfl rfl (ih (i + 1) (by omega) (by omega))
                 first | (rw [tvic_yes c21 c31 (Or.inl hv)]; rfl) | (rw [tvic_yes c21 c31 (Or.inr ⟨bb, hv, c51⟩)]; rfl) | (rw [tvic_no (Or.inl c21)]; done) | (rw [tvic_no (Or.inr (Or.inl c31))]; done) | (rw [tvic_no (Or.inr (Or.inr ⟨bb, hv, c51⟩)), hv]; done))
            · first
              | exact absurd c35 (by decide)
              | exact absurd c35 (nI_pos (by omega))
              | (refine px_aload_n dX4_victim_38 rfl ?_
                 refine px_tR 2 dX4_victim_39 (Or.inl fl_X4_18) (by decide) ?_
                 refine px_iload dX4_victim_42 rfl ?_
                 refine px_tL 2 dX4_victim_44 (by decide) (by show _ < 6; omega) ?_
                 refine px_aload_n dX4_victim_45 rfl ?_
                 refine px_tR 2 dX4_victim_46 (Or.inl fl_X4_18) (by decide) ?_
                 refine px_iload_n dX4_victim_49 rfl ?_
                 refine px_tL 2 dX4_victim_50 (by decide) (by show _ < 6; omega) ?_
                 refine px_icmp_leN 57 dX4_victim_51 (by decide) (by first | omega | exact hOK.lt (by decide) | exact hOK.lts (by decide)) (by first | omega | exact hOK.lt (by decide) | exact hOK.lts (by decide)) (fun c51 => ?_) (fun c51 => ?_)
                 · refine px_inc_4 dX4_victim_57 rfl (nI_1 _) (by decide) rfl ?_
                   refine px_goto 6 dX4_victim_60 (by decide) ?_
                   refine px_eq (lo2 := [some (.ref b), some (.int (nI t)), some (.int (nI rob)), some (.int (oI (tvic T t rob (i + 1)))), some (.int (nI (i + 1)))]) ?_ rfl rfl (ih (i + 1) (by omega) (by omega))
                   first | (rw [tvic_yes c21 c31 (Or.inl hv)]; rfl) | (rw [tvic_yes c21 c31 (Or.inr ⟨bb, hv, c51⟩)]; rfl) | (rw [tvic_no (Or.inl c21)]; done) | (rw [tvic_no (Or.inr (Or.inl c31))]; done) | (rw [tvic_no (Or.inr (Or.inr ⟨bb, hv, c51⟩)), hv]; done)
                 · refine px_iload dX4_victim_54 rfl ?_
                   refine px_istn_3 dX4_victim_56 (by decide) rfl ?_
                   refine px_inc_4 dX4_victim_57 rfl (nI_1 _) (by decide) rfl ?_
                   refine px_goto 6 dX4_victim_60 (by decide) ?_
                   refine px_eq (lo2 := [some (.ref b), some (.int (nI t)), some (.int (nI rob)), some (.int (oI (tvic T t rob (i + 1)))), some (.int (nI (i + 1)))]) ?_ rfl rfl (ih (i + 1) (by omega) (by omega))
                   first | (rw [tvic_yes c21 c31 (Or.inl hv)]; rfl) | (rw [tvic_yes c21 c31 (Or.inr ⟨bb, hv, c51⟩)]; rfl) | (rw [tvic_no (Or.inl c21)]; done) | (rw [tvic_no (Or.inr (Or.inl c31))]; done) | (rw [tvic_no (Or.inr (Or.inr ⟨bb, hv, c51⟩)), hv]; done))
set_option maxHeartbeats 4000000 in
set_option maxRecDepth 100000 in
theorem c_X4_victim {E : xE} {h : xHp} {b : Nat} {T : xT} (hOK : tOK T) (t rob : Nat) (ht : t < 4) (hr : rob < 64) : PMI E mX4_victim [.ref b, .int (nI t), .int (nI rob)] (TH E h b T) (oI (tvic T t rob (T.2 0))) (TH E h b T) := by
  refine pm_of [some (.ref b), some (.int (nI t)), some (.int (nI rob)), none, none] (by decide +kernel) (Nat.le_of_ble_eq_true rfl) rfl ?_
  refine px_bipush (v := -4) dX4_victim_0 (by decide) ?_
  refine px_istn_3 dX4_victim_2 (by decide) rfl ?_
  refine px_iconst (v := nI 0) dX4_victim_3 (by decide) ?_
  refine px_ist_4 dX4_victim_4 (by decide) rfl ?_
  exact l_X4_victim hOK t rob ht hr (T.2 0 + 1) 0 (Nat.zero_le _) (by omega)
