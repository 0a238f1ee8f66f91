section RO2
variable {E : xE} {M : xM} {av : List Value} {h : xHp} {z : Nat} {O : xO} {x : Int32}
theorem on0 {T : xT} (hm : PMI E M av (TH E (RO E h z O) (z + 1) (O.1.1 0)) x (TH E (RO E h z O) (z + 1) T)) : PMI E M av (RO E h z O) x (RO E h z (oT O 0 T)) := by
  rw [ro_t0a, ro_t0] at hm; exact hm
theorem on0r (hm : PMI E M av (TH E (RO E h z O) (z + 1) (O.1.1 0)) x (TH E (RO E h z O) (z + 1) (O.1.1 0))) : PMI E M av (RO E h z O) x (RO E h z O) := by
  rw [ro_t0a] at hm; exact hm
theorem on0v {T : xT} (hm : PMV E M av (TH E (RO E h z O) (z + 1) (O.1.1 0)) (TH E (RO E h z O) (z + 1) T)) : PMV E M av (RO E h z O) (RO E h z (oT O 0 T)) := by
  rw [ro_t0a, ro_t0] at hm; exact hm
theorem op0v {P : xP} (hm : PMV E M av (PH E (RO E h z O) (z + 8) (O.1.2 0)) (PH E (RO E h z O) (z + 8) P)) : PMV E M av (RO E h z O) (RO E h z (oP O 0 P)) := by
  rw [ro_p0a, ro_p0] at hm; exact hm
theorem onk {K : xK} (hm : PMI E M av (KH E (RO E h z O) (z + 139) O.2.2.1) x (KH E (RO E h z O) (z + 139) K)) : PMI E M av (RO E h z O) x (RO E h z (oK O K)) := by
  rw [ro_ka, ro_k] at hm; exact hm
theorem onkv {K : xK} (hm : PMV E M av (KH E (RO E h z O) (z + 139) O.2.2.1) (KH E (RO E h z O) (z + 139) K)) : PMV E M av (RO E h z O) (RO E h z (oK O K)) := by
  rw [ro_ka, ro_k] at hm; exact hm
theorem ro_o0 : RO E h z O (z + 1) = twC E (z + 1) (O.1.1 0) 0 := twA ro_t0a
theorem ro_o1 : RO E h z O (z + 66) = twC E (z + 66) (O.1.1 1) 0 := twA ro_t1a
theorem ro_o3 : RO E h z O (z + 141) = twC E (z + 141) (O.1.1 3) 0 := twA ro_t3a
theorem ro_q0 : RO E h z O (z + 8) = some (.inr (1, [.ref (z + 8 + 1), .int (nI (O.1.2 0).2.1), .int (nI (O.1.2 0).2.2)])) := by
  have := PH_obj (E := E) (h := RO E h z O) (b := z + 8) (P := O.1.2 0)
  rwa [ro_p0a] at this
theorem ro_q1 : RO E h z O (z + 73) = some (.inr (1, [.ref (z + 73 + 1), .int (nI (O.1.2 1).2.1), .int (nI (O.1.2 1).2.2)])) := by
  have := PH_obj (E := E) (h := RO E h z O) (b := z + 73) (P := O.1.2 1)
  rwa [ro_p1a] at this
theorem ro_ko : RO E h z O (z + 139) = some (.inr (3, [.ref (z + 139 + 1), .int (nI O.2.2.1.2.1), .int (nI O.2.2.1.2.2)])) := by
  have := KH_obj (E := E) (h := RO E h z O) (b := z + 139) (K := O.2.2.1)
  rwa [ro_ka] at this
theorem ro_so {s : Nat} (hs : s < 4) : RO E h z O (z + 149 + 2 * s) = some (.inr (2, [.ref (z + 149 + 2 * s + 1), .int (O.2.1 s).2.1, .int (nI (O.2.1 s).2.2)])) := by
  have := SH_obj (E := E) (h := RO E h z O) (b := z + 149 + 2 * s) (S := O.2.1 s)
  rwa [ro_sa hs] at this
end RO2
theorem in_t {lo a hi : Nat} (h1 : lo ≤ a) (h2 : a ≤ hi) (h3 : hi < 2 ^ 31) : decide (nI lo ≤ nI a ∧ nI a ≤ nI hi) = true := decide_eq_true ⟨nI_le h1 (by omega), nI_le h2 h3⟩
set_option maxHeartbeats 4000000 in
set_option maxRecDepth 100000 in
theorem c_X5_isApprentice {E : xE} {h : xHp} {z : Nat} {O : xO} (x : Int32) : PMI E mX5_isApprentice [.ref z, .int x] (RO E h z O) (bI (decide (0 ≤ x ∧ x < nI ((O.1.1 0).2 0)))) (RO E h z O) := by
  refine pm_of [some (.ref z), some (.int x)] (by decide +kernel) (Nat.le_of_ble_eq_true rfl) rfl ?_
  refine px_iload_n dX5_isApprentice_0 rfl ?_
  refine px_if_lt 19 dX5_isApprentice_1 (by decide) (fun c1 => ?_) (fun c1 => ?_)
  · refine px_iconst (v := nI 0) dX5_isApprentice_19 (by decide) ?_
    have e0 : decide (0 ≤ x ∧ x < nI ((O.1.1 0).2 0)) = false := decide_eq_false (fun q => absurd c1 (Int32.not_lt.mpr q.1))
    exact px_bret (b := decide (0 ≤ x ∧ x < nI ((O.1.1 0).2 0))) dX5_isApprentice_20 rfl rfl rfl (by rw [e0]; rfl) ⟨rfl, rfl⟩
  · refine px_iload_n dX5_isApprentice_4 rfl ?_
    refine px_aload_n dX5_isApprentice_5 rfl ?_
    refine px_get xk_X5 0 dX5_isApprentice_6 (Or.inl fl_X5_10) RO_obj (by decide) rfl ?_
    refine px_heap ro_t0a.symm ?_
    refine px_tS 0 dX5_isApprentice_9 (Or.inr ⟨_, fl_X5_57⟩) (by decide) ?_
    refine px_heap ro_t0a ?_
    refine px_icmp_ge 19 dX5_isApprentice_12 (by decide) (fun c12 => ?_) (fun c12 => ?_)
    · refine px_iconst (v := nI 0) dX5_isApprentice_19 (by decide) ?_
      have e0 : decide (0 ≤ x ∧ x < nI ((O.1.1 0).2 0)) = false := decide_eq_false (fun q => absurd c12 (Int32.not_le.mpr q.2))
      exact px_bret (b := decide (0 ≤ x ∧ x < nI ((O.1.1 0).2 0))) dX5_isApprentice_20 rfl rfl rfl (by rw [e0]; rfl) ⟨rfl, rfl⟩
    · refine px_iconst (v := nI 1) dX5_isApprentice_15 (by decide) ?_
      refine px_goto 20 dX5_isApprentice_16 (by decide) ?_
      have e0 : decide (0 ≤ x ∧ x < nI ((O.1.1 0).2 0)) = true := decide_eq_true ⟨Int32.not_lt.mp c1, Int32.not_le.mp c12⟩
      exact px_bret (b := decide (0 ≤ x ∧ x < nI ((O.1.1 0).2 0))) dX5_isApprentice_20 rfl rfl rfl (by rw [e0]; rfl) ⟨rfl, rfl⟩
theorem c_isA_y {E : xE} {h : xHp} {z : Nat} {O : xO} {a : Nat} (ha : a < (O.1.1 0).2 0) (hb : (O.1.1 0).2 0 < 2 ^ 31) : PMI E mX5_isApprentice [.ref z, .int (nI a)] (RO E h z O) (bI true) (RO E h z O) := by
  have := c_X5_isApprentice (E := E) (h := h) (z := z) (O := O) (nI a)
  rw [decide_eq_true ⟨nI_pos' (by omega), nI_lt ha hb⟩] at this
  exact this
theorem c_isA_n {E : xE} {h : xHp} {z : Nat} {O : xO} {x : Int32} (hx : ¬ (0 ≤ x ∧ x < nI ((O.1.1 0).2 0))) : PMI E mX5_isApprentice [.ref z, .int x] (RO E h z O) (bI false) (RO E h z O) := by
  have := c_X5_isApprentice (E := E) (h := h) (z := z) (O := O) x
  rw [decide_eq_false hx] at this
  exact this
set_option maxHeartbeats 4000000 in
set_option maxRecDepth 100000 in
theorem c_X5_isThief {E : xE} {h : xHp} {z : Nat} {O : xO} (x : Int32) : PMI E mX5_isThief [.ref z, .int x] (RO E h z O) (bI (decide (0 ≤ x ∧ x < nI ((O.1.1 0).2 1)))) (RO E h z O) := by
  refine pm_of [some (.ref z), some (.int x)] (by decide +kernel) (Nat.le_of_ble_eq_true rfl) rfl ?_
  refine px_iload_n dX5_isThief_0 rfl ?_
  refine px_if_lt 19 dX5_isThief_1 (by decide) (fun c1 => ?_) (fun c1 => ?_)
  · refine px_iconst (v := nI 0) dX5_isThief_19 (by decide) ?_
    have e0 : decide (0 ≤ x ∧ x < nI ((O.1.1 0).2 1)) = false := decide_eq_false (fun q => absurd c1 (Int32.not_lt.mpr q.1))
    exact px_bret (b := decide (0 ≤ x ∧ x < nI ((O.1.1 0).2 1))) dX5_isThief_20 rfl rfl rfl (by rw [e0]; rfl) ⟨rfl, rfl⟩
  · refine px_iload_n dX5_isThief_4 rfl ?_
    refine px_aload_n dX5_isThief_5 rfl ?_
    refine px_get xk_X5 0 dX5_isThief_6 (Or.inl fl_X5_10) RO_obj (by decide) rfl ?_
    refine px_heap ro_t0a.symm ?_
    refine px_tS 1 dX5_isThief_9 (Or.inr ⟨_, fl_X5_68⟩) (by decide) ?_
    refine px_heap ro_t0a ?_
    refine px_icmp_ge 19 dX5_isThief_12 (by decide) (fun c12 => ?_) (fun c12 => ?_)
    · refine px_iconst (v := nI 0) dX5_isThief_19 (by decide) ?_
      have e0 : decide (0 ≤ x ∧ x < nI ((O.1.1 0).2 1)) = false := decide_eq_false (fun q => absurd c12 (Int32.not_le.mpr q.2))
      exact px_bret (b := decide (0 ≤ x ∧ x < nI ((O.1.1 0).2 1))) dX5_isThief_20 rfl rfl rfl (by rw [e0]; rfl) ⟨rfl, rfl⟩
    · refine px_iconst (v := nI 1) dX5_isThief_15 (by decide) ?_
      refine px_goto 20 dX5_isThief_16 (by decide) ?_
      have e0 : decide (0 ≤ x ∧ x < nI ((O.1.1 0).2 1)) = true := decide_eq_true ⟨Int32.not_lt.mp c1, Int32.not_le.mp c12⟩
      exact px_bret (b := decide (0 ≤ x ∧ x < nI ((O.1.1 0).2 1))) dX5_isThief_20 rfl rfl rfl (by rw [e0]; rfl) ⟨rfl, rfl⟩
theorem c_isT_y {E : xE} {h : xHp} {z : Nat} {O : xO} {a : Nat} (ha : a < (O.1.1 0).2 1) (hb : (O.1.1 0).2 1 < 2 ^ 31) : PMI E mX5_isThief [.ref z, .int (nI a)] (RO E h z O) (bI true) (RO E h z O) := by
  have := c_X5_isThief (E := E) (h := h) (z := z) (O := O) (nI a)
  rw [decide_eq_true ⟨nI_pos' (by omega), nI_lt ha hb⟩] at this
  exact this
theorem c_isT_n {E : xE} {h : xHp} {z : Nat} {O : xO} {x : Int32} (hx : ¬ (0 ≤ x ∧ x < nI ((O.1.1 0).2 1))) : PMI E mX5_isThief [.ref z, .int x] (RO E h z O) (bI false) (RO E h z O) := by
  have := c_X5_isThief (E := E) (h := h) (z := z) (O := O) x
  rw [decide_eq_false hx] at this
  exact this
set_option maxHeartbeats 4000000 in
set_option maxRecDepth 100000 in
theorem c_X5_isSheet {E : xE} {h : xHp} (x : Int32) : PMI E mX5_isSheet [.int x] h (bI (decide (0 ≤ x ∧ x < nI 4))) h := by
  refine pm_of [some (.int x)] (by decide +kernel) (Nat.le_of_ble_eq_true rfl) rfl ?_
  refine px_iload_n dX5_isSheet_0 rfl ?_
  refine px_if_lt 13 dX5_isSheet_1 (by decide) (fun c1 => ?_) (fun c1 => ?_)
  · refine px_iconst (v := nI 0) dX5_isSheet_13 (by decide) ?_
    have e0 : decide (0 ≤ x ∧ x < nI 4) = false := decide_eq_false (fun q => absurd c1 (Int32.not_lt.mpr q.1))
    exact px_bret (b := decide (0 ≤ x ∧ x < nI 4)) dX5_isSheet_14 rfl rfl rfl (by rw [e0]; rfl) ⟨rfl, rfl⟩
  · refine px_iload_n dX5_isSheet_4 rfl ?_
    refine px_iconst (v := nI 4) dX5_isSheet_5 (by decide) ?_
    refine px_icmp_ge 13 dX5_isSheet_6 (by decide) (fun c6 => ?_) (fun c6 => ?_)
    · refine px_iconst (v := nI 0) dX5_isSheet_13 (by decide) ?_
      have e0 : decide (0 ≤ x ∧ x < nI 4) = false := decide_eq_false (fun q => absurd c6 (Int32.not_le.mpr q.2))
      exact px_bret (b := decide (0 ≤ x ∧ x < nI 4)) dX5_isSheet_14 rfl rfl rfl (by rw [e0]; rfl) ⟨rfl, rfl⟩
    · refine px_iconst (v := nI 1) dX5_isSheet_9 (by decide) ?_
      refine px_goto 14 dX5_isSheet_10 (by decide) ?_
      have e0 : decide (0 ≤ x ∧ x < nI 4) = true := decide_eq_true ⟨Int32.not_lt.mp c1, Int32.not_le.mp c6⟩
      exact px_bret (b := decide (0 ≤ x ∧ x < nI 4)) dX5_isSheet_14 rfl rfl rfl (by rw [e0]; rfl) ⟨rfl, rfl⟩
set_option maxHeartbeats 4000000 in
set_option maxRecDepth 100000 in
theorem c_X5_isLane {E : xE} {h : xHp} (x : Int32) : PMI E mX5_isLane [.int x] h (bI (decide (0 ≤ x ∧ x < nI 4))) h := by
  refine pm_of [some (.int x)] (by decide +kernel) (Nat.le_of_ble_eq_true rfl) rfl ?_
  refine px_iload_n dX5_isLane_0 rfl ?_
  refine px_if_lt 13 dX5_isLane_1 (by decide) (fun c1 => ?_) (fun c1 => ?_)
  · refine px_iconst (v := nI 0) dX5_isLane_13 (by decide) ?_
    have e0 : decide (0 ≤ x ∧ x < nI 4) = false := decide_eq_false (fun q => absurd c1 (Int32.not_lt.mpr q.1))
    exact px_bret (b := decide (0 ≤ x ∧ x < nI 4)) dX5_isLane_14 rfl rfl rfl (by rw [e0]; rfl) ⟨rfl, rfl⟩
  · refine px_iload_n dX5_isLane_4 rfl ?_
    refine px_iconst (v := nI 4) dX5_isLane_5 (by decide) ?_
    refine px_icmp_ge 13 dX5_isLane_6 (by decide) (fun c6 => ?_) (fun c6 => ?_)
    · refine px_iconst (v := nI 0) dX5_isLane_13 (by decide) ?_
      have e0 : decide (0 ≤ x ∧ x < nI 4) = false := decide_eq_false (fun q => absurd c6 (Int32.not_le.mpr q.2))
      exact px_bret (b := decide (0 ≤ x ∧ x < nI 4)) dX5_isLane_14 rfl rfl rfl (by rw [e0]; rfl) ⟨rfl, rfl⟩
    · refine px_iconst (v := nI 1) dX5_isLane_9 (by decide) ?_
      refine px_goto 14 dX5_isLane_10 (by decide) ?_
      have e0 : decide (0 ≤ x ∧ x < nI 4) = true := decide_eq_true ⟨Int32.not_lt.mp c1, Int32.not_le.mp c6⟩
      exact px_bret (b := decide (0 ≤ x ∧ x < nI 4)) dX5_isLane_14 rfl rfl rfl (by rw [e0]; rfl) ⟨rfl, rfl⟩
set_option maxHeartbeats 4000000 in
set_option maxRecDepth 100000 in
theorem c_X5_bar_n {E : xE} {h : xHp} {z : Nat} {O : xO} (x : Int32) (hx : ¬ (nI 0 ≤ x ∧ x ≤ nI 99)) : PMI E mX5_bar [.ref z, .int x] (RO E h z O) (-1) (RO E h z O) := by
  refine pm_of [some (.ref z), some (.int x), none] (by decide +kernel) (Nat.le_of_ble_eq_true rfl) rfl ?_
  refine px_iload_n dX5_bar_0 rfl ?_
  refine px_iconst (v := nI 0) dX5_bar_1 (by decide) ?_
  refine px_bipush (v := nI 99) dX5_bar_2 (by decide) ?_
  refine px_si (c_X5_isWithin (x) (nI 0) (nI 99)) mw_X5_isWithin wt_X5_isWithin (Or.inl ml_X5_53) dX5_bar_4 (by decide) rfl rfl (Nat.le_of_ble_eq_true rfl) ⟨rfl, rfl⟩ ?_
  refine px_if_neB 12 dX5_bar_7 (by decide) (fun c7 => ?_) (fun c7 => ?_)
  · exact absurd (of_decide_eq_true c7) hx
  · refine px_iconst (v := -1) dX5_bar_10 (by decide) ?_
    exact px_iret dX5_bar_11 rfl rfl rfl ⟨rfl, rfl⟩
set_option maxHeartbeats 4000000 in
set_option maxRecDepth 100000 in
theorem c_X5_bar {E : xE} {h : xHp} {z : Nat} {O : xO} (v : Nat) (hv : v ≤ 99) : PMI E mX5_bar [.ref z, .int (nI v)] (RO E h z O) (nI ((O.1.1 0).2 5)) (RO E h z (oT O 0 (tSS (O.1.1 0) 5 v))) := by
  refine pm_of [some (.ref z), some (.int (nI v)), none] (by decide +kernel) (Nat.le_of_ble_eq_true rfl) rfl ?_
  refine px_iload_n dX5_bar_0 rfl ?_
  refine px_iconst (v := nI 0) dX5_bar_1 (by decide) ?_
  refine px_bipush (v := nI 99) dX5_bar_2 (by decide) ?_
  refine px_si (c_X5_isWithin (nI v) (nI 0) (nI 99)) mw_X5_isWithin wt_X5_isWithin (Or.inl ml_X5_53) dX5_bar_4 (by decide) rfl rfl (Nat.le_of_ble_eq_true rfl) ⟨rfl, rfl⟩ ?_
  refine px_if_neB 12 dX5_bar_7 (by decide) (fun c7 => ?_) (fun c7 => ?_)
  · refine px_aload_n dX5_bar_12 rfl ?_
    refine px_get xk_X5 0 dX5_bar_13 (Or.inl fl_X5_10) RO_obj (by decide) rfl ?_
    refine px_heap ro_t0a.symm ?_
    refine px_tS 5 dX5_bar_16 (Or.inr ⟨_, fl_X5_75⟩) (by decide) ?_
    refine px_heap ro_t0a ?_
    refine px_istn_2 dX5_bar_19 (by decide) rfl ?_
    refine px_aload_n dX5_bar_20 rfl ?_
    refine px_get xk_X5 0 dX5_bar_21 (Or.inl fl_X5_10) RO_obj (by decide) rfl ?_
    refine px_iload_n dX5_bar_24 rfl ?_
    refine px_heap ro_t0a.symm ?_
    refine px_tP 5 dX5_bar_25 (Or.inr ⟨_, fl_X5_75⟩) (by decide) ?_
    refine px_heap ro_t0 ?_
    refine px_iload_n dX5_bar_28 rfl ?_
    exact px_iret dX5_bar_29 rfl rfl rfl ⟨rfl, rfl⟩
  · rw [in_t (by omega) (by omega) (by decide)] at c7
    cases c7
set_option maxHeartbeats 4000000 in
set_option maxRecDepth 100000 in
theorem c_X5_seed_n {E : xE} {h : xHp} {z : Nat} {O : xO} (x : Int32) (hx : x < 0) : PMI E mX5_seed [.ref z, .int x] (RO E h z O) (-1) (RO E h z O) := by
  refine pm_of [some (.ref z), some (.int x), none] (by decide +kernel) (Nat.le_of_ble_eq_true rfl) rfl ?_
  refine px_iload_n dX5_seed_0 rfl ?_
  refine px_if_ge 6 dX5_seed_1 (by decide) (fun c1 => ?_) (fun c1 => ?_)
  · exact absurd hx (Int32.not_lt.mpr c1)
  · refine px_iconst (v := -1) dX5_seed_4 (by decide) ?_
    exact px_iret dX5_seed_5 rfl rfl rfl ⟨rfl, rfl⟩
set_option maxHeartbeats 4000000 in
set_option maxRecDepth 100000 in
theorem c_X5_seed {E : xE} {h : xHp} {z : Nat} {O : xO} (v : Nat) (hv : v < 2 ^ 31) : PMI E mX5_seed [.ref z, .int (nI v)] (RO E h z O) (nI ((O.1.1 0).2 6)) (RO E h z (oT O 0 (tSS (O.1.1 0) 6 v))) := by
  refine pm_of [some (.ref z), some (.int (nI v)), none] (by decide +kernel) (Nat.le_of_ble_eq_true rfl) rfl ?_
  refine px_iload_n dX5_seed_0 rfl ?_
  refine px_if_geN 6 dX5_seed_1 (by decide) (by first | omega | exact hOK.lt (by decide) | exact hOK.lts (by decide)) ?_
  refine px_aload_n dX5_seed_6 rfl ?_
  refine px_get xk_X5 0 dX5_seed_7 (Or.inl fl_X5_10) RO_obj (by decide) rfl ?_
  refine px_heap ro_t0a.symm ?_
  refine px_tS 6 dX5_seed_10 (Or.inr ⟨_, fl_X5_137⟩) (by decide) ?_
  refine px_heap ro_t0a ?_
  refine px_istn_2 dX5_seed_13 (by decide) rfl ?_
  refine px_aload_n dX5_seed_14 rfl ?_
  refine px_get xk_X5 0 dX5_seed_15 (Or.inl fl_X5_10) RO_obj (by decide) rfl ?_
  refine px_iload_n dX5_seed_18 rfl ?_
  refine px_heap ro_t0a.symm ?_
  refine px_tP 6 dX5_seed_19 (Or.inr ⟨_, fl_X5_137⟩) (by decide) ?_
  refine px_heap ro_t0 ?_
  refine px_iload_n dX5_seed_22 rfl ?_
  exact px_iret dX5_seed_23 rfl rfl rfl ⟨rfl, rfl⟩
set_option maxHeartbeats 4000000 in
set_option maxRecDepth 100000 in
theorem c_X5_match {E : xE} {h : xHp} {z : Nat} {O : xO} (hOK : tOK (O.1.1 0)) : PMI E mX5_match [.ref z] (RO E h z O) (nI (tmost (O.1.1 0) (2 ^ (O.1.1 0).2 1))) (RO E h z O) := by
  refine pm_of [some (.ref z)] (by decide +kernel) (Nat.le_of_ble_eq_true rfl) rfl ?_
  refine px_aload_n dX5_match_0 rfl ?_
  refine px_get xk_X5 0 dX5_match_1 (Or.inl fl_X5_10) RO_obj (by decide) rfl ?_
  refine px_vi (M2 := mX4_mostRobbedAtOnce) (on0r (c_X4_mostRobbedAtOnce hOK)) mw_X4_mostRobbedAtOnce wm_X4_mostRobbedAtOnce we_X4_mostRobbedAtOnce (Or.inr ⟨_, ml_X5_201⟩) dX5_match_4 (ro_o0) rfl (by decide) rfl rfl (Nat.le_of_ble_eq_true rfl) ⟨rfl, rfl⟩ ?_
  exact px_iret dX5_match_7 rfl rfl rfl ⟨rfl, rfl⟩
set_option maxHeartbeats 4000000 in
set_option maxRecDepth 100000 in
theorem c_X5_robs_n {E : xE} {h : xHp} {z : Nat} {O : xO} (x : Int32) (hx : ¬ (0 ≤ x ∧ x < nI ((O.1.1 0).2 1))) : PMI E mX5_robs [.ref z, .int x] (RO E h z O) (-1) (RO E h z O) := by
  refine pm_of [some (.ref z), some (.int x)] (by decide +kernel) (Nat.le_of_ble_eq_true rfl) rfl ?_
  refine px_aload_n dX5_robs_0 rfl ?_
  refine px_iload_n dX5_robs_1 rfl ?_
  refine px_vi (M2 := mX5_isThief) (c_isT_n hx) mw_X5_isThief wm_X5_isThief we_X5_isThief (Or.inl ml_X5_109) dX5_robs_2 (RO_obj) rfl (by decide) rfl rfl (Nat.le_of_ble_eq_true rfl) ⟨rfl, rfl⟩ ?_
  refine px_if_neB 10 dX5_robs_5 (by decide) (fun c5 => ?_) (fun c5 => ?_)
  · cases c5
  · refine px_iconst (v := -1) dX5_robs_8 (by decide) ?_
    exact px_iret dX5_robs_9 rfl rfl rfl ⟨rfl, rfl⟩
set_option maxHeartbeats 4000000 in
set_option maxRecDepth 100000 in
theorem c_X5_robs {E : xE} {h : xHp} {z : Nat} {O : xO} (hOK : tOK (O.1.1 0)) (t : Nat) (ht : t < (O.1.1 0).2 1) : PMI E mX5_robs [.ref z, .int (nI t)] (RO E h z O) (oI (tvic (O.1.1 0) t (trob (O.1.1 0) (fun i => decide (t ≤ i)) ((O.1.1 0).2 1)) ((O.1.1 0).2 0))) (RO E h z O) := by
  refine pm_of [some (.ref z), some (.int (nI t))] (by decide +kernel) (Nat.le_of_ble_eq_true rfl) rfl ?_
  refine px_aload_n dX5_robs_0 rfl ?_
  refine px_iload_n dX5_robs_1 rfl ?_
  refine px_vi (M2 := mX5_isThief) (c_isT_y ht (by have := hOK.1.2.1; omega)) mw_X5_isThief wm_X5_isThief we_X5_isThief (Or.inl ml_X5_109) dX5_robs_2 (RO_obj) rfl (by decide) rfl rfl (Nat.le_of_ble_eq_true rfl) ⟨rfl, rfl⟩ ?_
  refine px_if_neB 10 dX5_robs_5 (by decide) (fun c5 => ?_) (fun c5 => ?_)
  · refine px_aload_n dX5_robs_10 rfl ?_
    refine px_get xk_X5 0 dX5_robs_11 (Or.inl fl_X5_10) RO_obj (by decide) rfl ?_
    refine px_iload_n dX5_robs_14 rfl ?_
    refine px_vi (M2 := mX4_victimTonight) (on0r (c_X4_victimTonight hOK t (by have := hOK.1.2.1; omega))) mw_X4_victimTonight wm_X4_victimTonight we_X4_victimTonight (Or.inr ⟨_, ml_X5_176⟩) dX5_robs_15 (ro_o0) rfl (by decide) rfl rfl (Nat.le_of_ble_eq_true rfl) ⟨rfl, rfl⟩ ?_
    exact px_iret dX5_robs_18 rfl rfl rfl ⟨rfl, rfl⟩
  · cases c5
