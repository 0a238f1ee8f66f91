/-! ===== both answer alike, whatever is asked ===== -/
theorem nI_ex {x : Int32} (h : 0 ≤ x) : ∃ n, n < 2 ^ 31 ∧ x = nI n := by
  have h1 := Int32.le_iff_toInt_le.mp h
  have e0 : (0 : Int32).toInt = 0 := by decide
  rw [e0] at h1
  have h2 : x.toInt < 2 ^ 31 := Int32.toInt_lt x
  refine ⟨x.toInt.toNat, by omega, ?_⟩
  apply Int32.toInt_inj.mp
  rw [nI_toInt (by omega)]
  omega
theorem exW {x : Int32} {lo hi : Nat} (h1 : lo ≤ hi) (h2 : hi < 2 ^ 31) (h : nI lo ≤ x ∧ x ≤ nI hi) : ∃ n, lo ≤ n ∧ n ≤ hi ∧ x = nI n := by
  have h3 := Int32.le_iff_toInt_le.mp h.1
  have h4 := Int32.le_iff_toInt_le.mp h.2
  rw [nI_toInt (by omega)] at h3 h4
  have e0 : (0 : Int32).toInt = 0 := by decide
  obtain ⟨n, hn, rfl⟩ := nI_ex (x := x) (Int32.le_iff_toInt_le.mpr (by rw [e0]; omega))
  rw [nI_toInt hn] at h3 h4
  exact ⟨n, by omega, by omega, rfl⟩
theorem exL {x : Int32} {n : Nat} (h2 : n < 2 ^ 31) (h : 0 ≤ x ∧ x < nI n) : ∃ m, m < n ∧ x = nI m := by
  obtain ⟨m, hm, rfl⟩ := nI_ex h.1
  exact ⟨m, (nI_ltI hm h2).mp h.2, rfl⟩
theorem exB {x : Int32} (h : nI 0 ≤ x ∧ x ≤ nI 1) : ∃ v : Bool, x = bI v := by
  obtain ⟨n, h1, h2, rfl⟩ := exW (by decide) (by decide) h
  have hh : n = 0 ∨ n = 1 := by omega
  rcases hh with h | h <;> subst h
  · exact ⟨false, rfl⟩
  · exact ⟨true, rfl⟩
theorem exS (u : Int32) (n : Nat) (hn : n < 2 ^ 30) : (u.toInt < 0 ∨ (n : Int) < u.toInt) ∨ ∃ m, m < n + 1 ∧ u = nI m := by
  by_cases h : u.toInt < 0 ∨ (n : Int) < u.toInt
  · exact Or.inl h
  · have e0 : (0 : Int32).toInt = 0 := by decide
    obtain ⟨m, hm, rfl⟩ := nI_ex (x := u) (Int32.le_iff_toInt_le.mpr (by rw [e0]; omega))
    rw [nI_toInt hm] at h
    exact Or.inr ⟨m, by omega, rfl⟩
theorem shold_ex {S : xS} {i k : Int32} (hz : S.2.2 ≤ 24) (h : shold S i k = true) : ∃ f m, i = nI f ∧ k = nI m ∧ f + m ≤ S.2.2 := by
  obtain ⟨h1, h2, h3⟩ := of_decide_eq_true h
  obtain ⟨f, hf, rfl⟩ := nI_ex h1
  obtain ⟨m, hm, rfl⟩ := nI_ex h2
  by_cases hmz : m ≤ S.2.2
  · rw [nI_sub hmz] at h3
    have := Int32.le_iff_toInt_le.mp h3
    rw [nI_toInt hf, nI_toInt (by omega)] at this
    exact ⟨f, m, rfl, rfl, by omega⟩
  · exact (sub_neg hz ((nI_ltI (by omega) hm).mpr (by omega)) h1 h3).elim
theorem sref_or {S : xS} {l k : Nat} {i : Int32} (hl : l < 4) (hz : S.2.2 ≤ 24) (hk : k ≤ 24) : sref S (nI l) i (nI k) < 0 ∨ (S.2.1 = nI l ∧ ∃ f, i = nI f ∧ f + k ≤ S.2.2) := by
  unfold sref
  by_cases h1 : S.2.1 = -1
  · rw [if_pos h1]; exact Or.inl (by decide)
  · rw [if_neg h1]
    by_cases h2 : S.2.1 = nI l
    · rw [if_pos h2]
      cases h3 : shold S i (nI k)
      · rw [if_neg (by decide)]; exact Or.inl (by decide)
      · obtain ⟨f, m, rfl, e, h4⟩ := shold_ex hz h3
        have e2 : k = m := (nI_eq (by omega) (by omega)).mp e
        subst e2
        exact Or.inr ⟨h2, f, rfl, h4⟩
    · rw [if_neg h2]; exact Or.inl (by decide)
def Agree (Mc Mr : xM) (as : List Value) : Prop := ∀ (E : xE) (z w : Nat) (O : xO) (D : xMd), Rel O D → ∃ (x : Int32) (O' : xO), (∀ h, PMet E Mc (.ref z :: as) (RO E h z O) (fun v h' => v = some (.int x) ∧ ∃ O'', (∀ D', Rel O' D' → Rel O'' D') ∧ h' = RO E h z O'')) ∧ ∀ h, PMX E Mr (.ref w :: as) h w D x O'
theorem ag_i {E : xE} {z w : Nat} {O O' : xO} {D : xMd} {Mc Mr : xM} {as : List Value} {x : Int32} (h1 : ∀ h, PMI E Mc (.ref z :: as) (RO E h z O) x (RO E h z O')) (h2 : ∀ h, PMX E Mr (.ref w :: as) h w D x O') : ∃ (x : Int32) (O' : xO), (∀ h, PMet E Mc (.ref z :: as) (RO E h z O) (fun v h' => v = some (.int x) ∧ ∃ O'', (∀ D', Rel O' D' → Rel O'' D') ∧ h' = RO E h z O'')) ∧ ∀ h, PMX E Mr (.ref w :: as) h w D x O' := ⟨x, O', fun h => pm_mono (h1 h) (fun v h' q => ⟨q.1, O', fun _ r => r, q.2⟩), h2⟩
theorem ag_g {E : xE} {z w : Nat} {O O' : xO} {D : xMd} {Mc Mr : xM} {as : List Value} {x : Int32} (h1 : ∀ h, PMG E Mc (.ref z :: as) (RO E h z O) x h z O') (h2 : ∀ h, PMX E Mr (.ref w :: as) h w D x O') : ∃ (x : Int32) (O' : xO), (∀ h, PMet E Mc (.ref z :: as) (RO E h z O) (fun v h' => v = some (.int x) ∧ ∃ O'', (∀ D', Rel O' D' → Rel O'' D') ∧ h' = RO E h z O'')) ∧ ∀ h, PMX E Mr (.ref w :: as) h w D x O' := ⟨x, O', fun h => pm_mono (h1 h) (fun v h' q => by obtain ⟨e, T', hT, hh⟩ := q; exact ⟨e, oT O' 2 T', fun _ r => r.t2 hT, hh⟩), h2⟩
set_option maxHeartbeats 4000000 in
set_option maxRecDepth 100000 in
theorem ag_apprentice (k s c : Int32) : Agree mX5_apprentice mX6_apprentice [.int k, .int s, .int c] := by
  intro E z w O D hR
  have hOK := hR.1.2.1.1
  have hN9 := hR.1.2.1.2
  have hT2 := hR.2.2.2.2.1
  have hOk := hR.xok
  have hx8 := hOk.2.1
  have hk8 := hOk.2.2
  have hm6 := hOK.1.1
  have hm4 := hOK.1.2.1
  by_cases hx : (nI 0 ≤ k ∧ k ≤ nI 4) ∧ (nI 0 ≤ s ∧ s ≤ nI 3) ∧ (nI 0 ≤ c ∧ c ≤ nI 9)
  · obtain ⟨q0, q1, q2⟩ := hx
    obtain ⟨k, _, hk, rfl⟩ := exW (by decide) (by decide) q0
    obtain ⟨s, _, hs, rfl⟩ := exW (by decide) (by decide) q1
    obtain ⟨c, _, hc, rfl⟩ := exW (by decide) (by decide) q2
    by_cases hb : (O.1.1 0).2 0 < 6
    · exact ag_i (fun h => c_X5_apprentice hOK k s c hk hs hc hb) (fun h => c_X6_apprentice hR k s c hk hs hc hb)
    · exact ag_i (fun h => c_X5_apprentice_f hOK k s c hk hs hc (by omega)) (fun h => c_X6_apprentice_f hR k s c hk hs hc (by omega))
  · exact ag_i (fun h => c_X5_apprentice_n k s c hx) (fun h => c_X6_apprentice_n hR k s c hx)
set_option maxHeartbeats 4000000 in
set_option maxRecDepth 100000 in
theorem ag_thief (k c : Int32) : Agree mX5_thief mX6_thief [.int k, .int c] := by
  intro E z w O D hR
  have hOK := hR.1.2.1.1
  have hN9 := hR.1.2.1.2
  have hT2 := hR.2.2.2.2.1
  have hOk := hR.xok
  have hx8 := hOk.2.1
  have hk8 := hOk.2.2
  have hm6 := hOK.1.1
  have hm4 := hOK.1.2.1
  by_cases hx : (nI 0 ≤ k ∧ k ≤ nI 9) ∧ (nI 0 ≤ c ∧ c ≤ nI 4)
  · obtain ⟨q0, q1⟩ := hx
    obtain ⟨k, _, hk, rfl⟩ := exW (by decide) (by decide) q0
    obtain ⟨c, _, hc, rfl⟩ := exW (by decide) (by decide) q1
    by_cases hb : (O.1.1 0).2 1 < 4
    · exact ag_i (fun h => c_X5_thief hOK k c hk hc hb) (fun h => c_X6_thief hR k c hk hc hb)
    · exact ag_i (fun h => c_X5_thief_f hOK k c hk hc (by omega)) (fun h => c_X6_thief_f hR k c hk hc (by omega))
  · exact ag_i (fun h => c_X5_thief_n k c hx) (fun h => c_X6_thief_n hR k c hx)
set_option maxHeartbeats 4000000 in
set_option maxRecDepth 100000 in
theorem ag_bar (v : Int32) : Agree mX5_bar mX6_bar [.int v] := by
  intro E z w O D hR
  have hOK := hR.1.2.1.1
  have hN9 := hR.1.2.1.2
  have hT2 := hR.2.2.2.2.1
  have hOk := hR.xok
  have hx8 := hOk.2.1
  have hk8 := hOk.2.2
  have hm6 := hOK.1.1
  have hm4 := hOK.1.2.1
  by_cases hx : (nI 0 ≤ v ∧ v ≤ nI 99)
  · have q0 := hx
    obtain ⟨v, _, hv, rfl⟩ := exW (by decide) (by decide) q0
    exact ag_i (fun h => c_X5_bar v hv) (fun h => c_X6_bar hR v hv)
  · exact ag_i (fun h => c_X5_bar_n v hx) (fun h => c_X6_bar_n hR v hx)
set_option maxHeartbeats 4000000 in
set_option maxRecDepth 100000 in
theorem ag_of (x u : Int32) : Agree mX5_of mX6_of [.int x, .int u] := by
  intro E z w O D hR
  have hOK := hR.1.2.1.1
  have hN9 := hR.1.2.1.2
  have hT2 := hR.2.2.2.2.1
  have hOk := hR.xok
  have hx8 := hOk.2.1
  have hk8 := hOk.2.2
  have hm6 := hOK.1.1
  have hm4 := hOK.1.2.1
  by_cases hx : (0 ≤ x ∧ x < nI ((O.1.1 0).2 0))
  · have q0 := hx
    obtain ⟨a, ha, rfl⟩ := exL (by omega) q0
    rcases exS u 6 (by decide) with hu | ⟨u, hu, rfl⟩
    · exact ag_i (fun h => c_X5_of_w hOK a u ha hu) (fun h => c_X6_of_w hR a u ha hu)
    · exact ag_i (fun h => c_X5_of hOK a u ha hu) (fun h => c_X6_of hR a u ha hu)
  · exact ag_i (fun h => c_X5_of_n x u hx) (fun h => c_X6_of_n hR x u hx)
set_option maxHeartbeats 4000000 in
set_option maxRecDepth 100000 in
theorem ag_at (x u : Int32) : Agree mX5_at mX6_at [.int x, .int u] := by
  intro E z w O D hR
  have hOK := hR.1.2.1.1
  have hN9 := hR.1.2.1.2
  have hT2 := hR.2.2.2.2.1
  have hOk := hR.xok
  have hx8 := hOk.2.1
  have hk8 := hOk.2.2
  have hm6 := hOK.1.1
  have hm4 := hOK.1.2.1
  by_cases hx : (0 ≤ x ∧ x < nI ((O.1.1 0).2 1))
  · have q0 := hx
    obtain ⟨a, ha, rfl⟩ := exL (by omega) q0
    rcases exS u 2 (by decide) with hu | ⟨u, hu, rfl⟩
    · exact ag_i (fun h => c_X5_at_w hOK a u ha hu) (fun h => c_X6_at_w hR a u ha hu)
    · exact ag_i (fun h => c_X5_at hOK a u ha hu) (fun h => c_X6_at hR a u ha hu)
  · exact ag_i (fun h => c_X5_at_n x u hx) (fun h => c_X6_at_n hR x u hx)
set_option maxHeartbeats 4000000 in
set_option maxRecDepth 100000 in
theorem ag_type (c : Int32) : Agree mX5_type mX6_type [.int c] := by
  intro E z w O D hR
  have hOK := hR.1.2.1.1
  have hN9 := hR.1.2.1.2
  have hT2 := hR.2.2.2.2.1
  have hOk := hR.xok
  have hx8 := hOk.2.1
  have hk8 := hOk.2.2
  have hm6 := hOK.1.1
  have hm4 := hOK.1.2.1
  by_cases hx : (nI 32 ≤ c ∧ c ≤ nI 126)
  · have q0 := hx
    obtain ⟨c, h1, h2, rfl⟩ := exW (by decide) (by decide) q0
    have hl8 := hR.2.2.2.1.2.1
    by_cases hb : O.2.2.1.2.1 < 80
    · exact ag_i (fun h => c_X5_type c h1 h2 hb) (fun h => c_X6_type hR c h1 h2 hb)
    · exact ag_i (fun h => c_X5_type_f c h1 h2 (by omega) (by omega)) (fun h => c_X6_type_f hR c h1 h2 (by omega))
  · exact ag_i (fun h => c_X5_type_n c hx) (fun h => c_X6_type_n hR c hx)
set_option maxHeartbeats 4000000 in
set_option maxRecDepth 100000 in
theorem ag_town : Agree mX5_town mX6_town [] := by
  intro E z w O D hR
  have hOK := hR.1.2.1.1
  have hN9 := hR.1.2.1.2
  have hT2 := hR.2.2.2.2.1
  have hOk := hR.xok
  have hx8 := hOk.2.1
  have hk8 := hOk.2.2
  have hm6 := hOK.1.1
  have hm4 := hOK.1.2.1
  have hK := hR.2.2.2.1
  cases hb : (okt O).1
  · exact ag_i (fun h => c_X5_town_n hK.2.1 hK.2.2.1 hR.2.2.2.2.2 hb) (fun h => by have q := c_X6_town (E := E) (h := h) (w := w) hR; rw [if_neg (by rw [hb]; decide), if_neg (by rw [hb]; decide)] at q; exact q)
  · exact ag_i (fun h => c_X5_town hK.2.1 hK.2.2.1 hR.2.2.2.2.2 hb) (fun h => by have q := c_X6_town (E := E) (h := h) (w := w) hR; rw [if_pos hb, if_pos hb] at q; exact q)
set_option maxHeartbeats 4000000 in
set_option maxRecDepth 100000 in
theorem ag_count (u : Int32) : Agree mX5_count mX6_count [.int u] := by
  intro E z w O D hR
  have hOK := hR.1.2.1.1
  have hN9 := hR.1.2.1.2
  have hT2 := hR.2.2.2.2.1
  have hOk := hR.xok
  have hx8 := hOk.2.1
  have hk8 := hOk.2.2
  have hm6 := hOK.1.1
  have hm4 := hOK.1.2.1
  rcases exS u 7 (by decide) with hu | ⟨u, hu, rfl⟩
  · exact ag_i (fun h => c_X5_count_w u hu) (fun h => c_X6_count_w hR u hu)
  · exact ag_i (fun h => c_X5_count hOK u hu) (fun h => c_X6_count hR u hu)
set_option maxHeartbeats 4000000 in
set_option maxRecDepth 100000 in
theorem ag_nights (x : Int32) : Agree mX5_nights mX6_nights [.int x] := by
  intro E z w O D hR
  have hOK := hR.1.2.1.1
  have hN9 := hR.1.2.1.2
  have hT2 := hR.2.2.2.2.1
  have hOk := hR.xok
  have hx8 := hOk.2.1
  have hk8 := hOk.2.2
  have hm6 := hOK.1.1
  have hm4 := hOK.1.2.1
  by_cases hx : (nI 1 ≤ x ∧ x ≤ nI 40)
  · have q0 := hx
    obtain ⟨k, h1, hk, rfl⟩ := exW (by decide) (by decide) q0
    by_cases hb : (O.1.1 0).2 4 ≤ 9999 - k
    · exact ag_i (fun h => c_X5_nights hOk k h1 hk hb) (fun h => c_X6_nights hR k h1 hk hb)
    · exact ag_i (fun h => c_X5_nights_f hOk k h1 hk (by omega)) (fun h => c_X6_nights_f hR k h1 hk (by omega))
  · exact ag_i (fun h => c_X5_nights_n x hx) (fun h => c_X6_nights_n hR x hx)
set_option maxHeartbeats 4000000 in
set_option maxRecDepth 100000 in
theorem ag_drift (x : Int32) : Agree mX5_drift mX6_drift [.int x] := by
  intro E z w O D hR
  have hOK := hR.1.2.1.1
  have hN9 := hR.1.2.1.2
  have hT2 := hR.2.2.2.2.1
  have hOk := hR.xok
  have hx8 := hOk.2.1
  have hk8 := hOk.2.2
  have hm6 := hOK.1.1
  have hm4 := hOK.1.2.1
  by_cases hx : (nI 1 ≤ x ∧ x ≤ nI 40)
  · have q0 := hx
    obtain ⟨k, h1, hk, rfl⟩ := exW (by decide) (by decide) q0
    by_cases hb : (O.1.1 0).2 4 ≤ 9999 - k
    · exact ag_i (fun h => c_X5_drift hOk k h1 hk hb) (fun h => c_X6_drift hR k h1 hk hb)
    · exact ag_i (fun h => c_X5_drift_f hOk k h1 hk (by omega)) (fun h => c_X6_drift_f hR k h1 hk (by omega))
  · exact ag_i (fun h => c_X5_drift_n x hx) (fun h => c_X6_drift_n hR x hx)
set_option maxHeartbeats 4000000 in
set_option maxRecDepth 100000 in
theorem ag_show (x y : Int32) : Agree mX5_show mX6_show [.int x, .int y] := by
  intro E z w O D hR
  have hOK := hR.1.2.1.1
  have hN9 := hR.1.2.1.2
  have hT2 := hR.2.2.2.2.1
  have hOk := hR.xok
  have hx8 := hOk.2.1
  have hk8 := hOk.2.2
  have hm6 := hOK.1.1
  have hm4 := hOK.1.2.1
  by_cases hx : (0 ≤ x ∧ x < nI ((O.1.1 0).2 0)) ∧ (nI 0 ≤ y ∧ y ≤ nI 1)
  · obtain ⟨q0, q1⟩ := hx
    obtain ⟨a, ha, rfl⟩ := exL (by omega) q0
    obtain ⟨v, rfl⟩ := exB q1
    by_cases hb : ((O.1.1 0).2 3).testBit a = true ∨ ((O.1.1 0).2 2).testBit a = v
    · exact ag_i (fun h => c_X5_show_o hOK a v ha hb) (fun h => c_X6_show_o hR a v ha hb)
    · have hs : ((O.1.1 0).2 3).testBit a = false := by
        cases hq : ((O.1.1 0).2 3).testBit a
        · rfl
        · exact absurd (Or.inl hq) hb
      have hn : ((O.1.1 0).2 2).testBit a ≠ v := fun z => hb (Or.inr z)
      exact ag_i (fun h => c_X5_show hOK hx8 hk8 a v ha hs hn) (fun h => c_X6_show hR a v ha hs hn)
  · exact ag_i (fun h => c_X5_show_n x y hx) (fun h => c_X6_show_n hR x y hx)
set_option maxHeartbeats 4000000 in
set_option maxRecDepth 100000 in
theorem ag_teach (x y : Int32) : Agree mX5_teach mX6_teach [.int x, .int y] := by
  intro E z w O D hR
  have hOK := hR.1.2.1.1
  have hN9 := hR.1.2.1.2
  have hT2 := hR.2.2.2.2.1
  have hOk := hR.xok
  have hx8 := hOk.2.1
  have hk8 := hOk.2.2
  have hm6 := hOK.1.1
  have hm4 := hOK.1.2.1
  by_cases hx : (0 ≤ x ∧ x < nI ((O.1.1 0).2 0)) ∧ (nI 0 ≤ y ∧ y ≤ nI 9)
  · obtain ⟨q0, q1⟩ := hx
    obtain ⟨a, ha, rfl⟩ := exL (by omega) q0
    obtain ⟨c, _, hc, rfl⟩ := exW (by decide) (by decide) q1
    by_cases hb : (O.1.1 0).1 3 a = c
    · exact ag_i (fun h => c_X5_teach_o hOK a c ha hc hb) (fun h => c_X6_teach_o hR a c ha hc hb)
    · exact ag_i (fun h => c_X5_teach hOK hx8 hk8 a c ha hc hb) (fun h => c_X6_teach hR a c ha hc hb)
  · exact ag_i (fun h => c_X5_teach_n x y hx) (fun h => c_X6_teach_n hR x y hx)
set_option maxHeartbeats 4000000 in
set_option maxRecDepth 100000 in
theorem ag_undo : Agree mX5_undo mX6_undo [] := by
  intro E z w O D hR
  have hOK := hR.1.2.1.1
  have hN9 := hR.1.2.1.2
  have hT2 := hR.2.2.2.2.1
  have hOk := hR.xok
  have hx8 := hOk.2.1
  have hk8 := hOk.2.2
  have hm6 := hOK.1.1
  have hm4 := hOK.1.2.1
  by_cases hb : (O.1.2 0).2.2 = 0
  · exact ag_i (fun h => c_X5_undo_o hb) (fun h => c_X6_undo_o hR hb)
  · exact ag_i (fun h => c_X5_undo hx8 hk8 (by omega)) (fun h => c_X6_undo hR (by omega))
set_option maxHeartbeats 4000000 in
set_option maxRecDepth 100000 in
theorem ag_seed (v : Int32) : Agree mX5_seed mX6_seed [.int v] := by
  intro E z w O D hR
  have hOK := hR.1.2.1.1
  have hN9 := hR.1.2.1.2
  have hT2 := hR.2.2.2.2.1
  have hOk := hR.xok
  have hx8 := hOk.2.1
  have hk8 := hOk.2.2
  have hm6 := hOK.1.1
  have hm4 := hOK.1.2.1
  by_cases hb : v < 0
  · exact ag_i (fun h => c_X5_seed_n v hb) (fun h => c_X6_seed_n hR v hb)
  · obtain ⟨v, hv, rfl⟩ := nI_ex (Int32.not_lt.mp hb)
    exact ag_i (fun h => c_X5_seed v hv) (fun h => c_X6_seed hR v hv)
set_option maxHeartbeats 4000000 in
set_option maxRecDepth 100000 in
theorem ag_ahead (x y : Int32) : Agree mX5_ahead mX6_ahead [.int x, .int y] := by
  intro E z w O D hR
  have hOK := hR.1.2.1.1
  have hN9 := hR.1.2.1.2
  have hT2 := hR.2.2.2.2.1
  have hOk := hR.xok
  have hx8 := hOk.2.1
  have hk8 := hOk.2.2
  have hm6 := hOK.1.1
  have hm4 := hOK.1.2.1
  by_cases hx : (0 ≤ x ∧ x < nI ((O.1.1 0).2 0)) ∧ (nI 0 ≤ y ∧ y ≤ nI 99)
  · obtain ⟨q0, q1⟩ := hx
    obtain ⟨a, ha, rfl⟩ := exL (by omega) q0
    obtain ⟨k, _, hk, rfl⟩ := exW (by decide) (by decide) q1
    exact ag_g (fun h => c_X5_ahead hOK hT2 hN9 a k ha hk) (fun h => c_X6_ahead hR a k ha hk)
  · exact ag_i (fun h => c_X5_ahead_n x y hx) (fun h => c_X6_ahead_n hR x y hx)
set_option maxHeartbeats 4000000 in
set_option maxRecDepth 100000 in
theorem ag_then (x : Int32) : Agree mX5_then mX6_then [.int x] := by
  intro E z w O D hR
  have hOK := hR.1.2.1.1
  have hN9 := hR.1.2.1.2
  have hT2 := hR.2.2.2.2.1
  have hOk := hR.xok
  have hx8 := hOk.2.1
  have hk8 := hOk.2.2
  have hm6 := hOK.1.1
  have hm4 := hOK.1.2.1
  by_cases hx : (nI 0 ≤ x ∧ x ≤ nI 99)
  · have q0 := hx
    obtain ⟨k, _, hk, rfl⟩ := exW (by decide) (by decide) q0
    exact ag_g (fun h => c_X5_then hOK hT2 hN9 k hk) (fun h => c_X6_then hR k hk)
  · exact ag_i (fun h => c_X5_then_n x hx) (fun h => c_X6_then_n hR x hx)
set_option maxHeartbeats 4000000 in
set_option maxRecDepth 100000 in
theorem ag_sworn (x : Int32) : Agree mX5_sworn mX6_sworn [.int x] := by
  intro E z w O D hR
  have hOK := hR.1.2.1.1
  have hN9 := hR.1.2.1.2
  have hT2 := hR.2.2.2.2.1
  have hOk := hR.xok
  have hx8 := hOk.2.1
  have hk8 := hOk.2.2
  have hm6 := hOK.1.1
  have hm4 := hOK.1.2.1
  by_cases hx : (0 ≤ x ∧ x < nI ((O.1.1 0).2 0))
  · have q0 := hx
    obtain ⟨a, ha, rfl⟩ := exL (by omega) q0
    exact ag_g (fun h => c_X5_sworn hOK hT2 hN9 a ha) (fun h => c_X6_sworn hR a ha)
  · exact ag_i (fun h => c_X5_sworn_n x hx) (fun h => c_X6_sworn_n hR x hx)
set_option maxHeartbeats 4000000 in
set_option maxRecDepth 100000 in
theorem ag_robs (x : Int32) : Agree mX5_robs mX6_robs [.int x] := by
  intro E z w O D hR
  have hOK := hR.1.2.1.1
  have hN9 := hR.1.2.1.2
  have hT2 := hR.2.2.2.2.1
  have hOk := hR.xok
  have hx8 := hOk.2.1
  have hk8 := hOk.2.2
  have hm6 := hOK.1.1
  have hm4 := hOK.1.2.1
  by_cases hx : (0 ≤ x ∧ x < nI ((O.1.1 0).2 1))
  · have q0 := hx
    obtain ⟨t, ht, rfl⟩ := exL (by omega) q0
    exact ag_i (fun h => c_X5_robs hOK t ht) (fun h => c_X6_robs hR t ht)
  · exact ag_i (fun h => c_X5_robs_n x hx) (fun h => c_X6_robs_n hR x hx)
set_option maxHeartbeats 4000000 in
set_option maxRecDepth 100000 in
theorem ag_hides (x y : Int32) : Agree mX5_hides mX6_hides [.int x, .int y] := by
  intro E z w O D hR
  have hOK := hR.1.2.1.1
  have hN9 := hR.1.2.1.2
  have hT2 := hR.2.2.2.2.1
  have hOk := hR.xok
  have hx8 := hOk.2.1
  have hk8 := hOk.2.2
  have hm6 := hOK.1.1
  have hm4 := hOK.1.2.1
  by_cases hx : (0 ≤ x ∧ x < nI ((O.1.1 0).2 0)) ∧ (nI 0 ≤ y ∧ y ≤ nI 1)
  · obtain ⟨q0, q1⟩ := hx
    obtain ⟨a, ha, rfl⟩ := exL (by omega) q0
    obtain ⟨u, _, hu, rfl⟩ := exW (by decide) (by decide) q1
    exact ag_g (fun h => c_X5_hides hOK hT2 hN9 a u ha hu) (fun h => c_X6_hides hR a u ha hu)
  · exact ag_i (fun h => c_X5_hides_n x y hx) (fun h => c_X6_hides_n hR x y hx)
set_option maxHeartbeats 4000000 in
set_option maxRecDepth 100000 in
theorem ag_cover (x y u : Int32) : Agree mX5_cover mX6_cover [.int x, .int y, .int u] := by
  intro E z w O D hR
  have hOK := hR.1.2.1.1
  have hN9 := hR.1.2.1.2
  have hT2 := hR.2.2.2.2.1
  have hOk := hR.xok
  have hx8 := hOk.2.1
  have hk8 := hOk.2.2
  have hm6 := hOK.1.1
  have hm4 := hOK.1.2.1
  by_cases hx : (0 ≤ x ∧ x < nI ((O.1.1 0).2 0)) ∧ (nI 1 ≤ y ∧ y ≤ nI 40) ∧ (nI 0 ≤ u ∧ u ≤ nI 1)
  · obtain ⟨q0, q1, q2⟩ := hx
    obtain ⟨a, ha, rfl⟩ := exL (by omega) q0
    obtain ⟨k, h1, hk, rfl⟩ := exW (by decide) (by decide) q1
    obtain ⟨u, _, hu, rfl⟩ := exW (by decide) (by decide) q2
    exact ag_g (fun h => c_X5_cover hOK hT2 hN9 a k u ha h1 hk hu) (fun h => c_X6_cover hR a k u ha h1 hk hu)
  · exact ag_i (fun h => c_X5_cover_n x y u hx) (fun h => c_X6_cover_n hR x y u hx)
set_option maxHeartbeats 4000000 in
set_option maxRecDepth 100000 in
theorem ag_low (x : Int32) : Agree mX5_low mX6_low [.int x] := by
  intro E z w O D hR
  have hOK := hR.1.2.1.1
  have hN9 := hR.1.2.1.2
  have hT2 := hR.2.2.2.2.1
  have hOk := hR.xok
  have hx8 := hOk.2.1
  have hk8 := hOk.2.2
  have hm6 := hOK.1.1
  have hm4 := hOK.1.2.1
  by_cases hx : (nI 1 ≤ x ∧ x ≤ nI 40)
  · have q0 := hx
    obtain ⟨k, h1, hk, rfl⟩ := exW (by decide) (by decide) q0
    exact ag_g (fun h => c_X5_low hOK hT2 hN9 k h1 hk) (fun h => c_X6_low hR k h1 hk)
  · exact ag_i (fun h => c_X5_low_n x hx) (fun h => c_X6_low_n hR x hx)
set_option maxHeartbeats 4000000 in
set_option maxRecDepth 100000 in
theorem ag_spare (x y : Int32) : Agree mX5_spare mX6_spare [.int x, .int y] := by
  intro E z w O D hR
  have hOK := hR.1.2.1.1
  have hN9 := hR.1.2.1.2
  have hT2 := hR.2.2.2.2.1
  have hOk := hR.xok
  have hx8 := hOk.2.1
  have hk8 := hOk.2.2
  have hm6 := hOK.1.1
  have hm4 := hOK.1.2.1
  by_cases hx : (nI 1 ≤ x ∧ x ≤ nI 40) ∧ (nI 0 ≤ y ∧ y ≤ nI 1)
  · obtain ⟨q0, q1⟩ := hx
    obtain ⟨k, h1, hk, rfl⟩ := exW (by decide) (by decide) q0
    obtain ⟨u, _, hu, rfl⟩ := exW (by decide) (by decide) q1
    exact ag_g (fun h => c_X5_spare hOK hT2 hN9 k u h1 hk hu) (fun h => c_X6_spare hR k u h1 hk hu)
  · exact ag_i (fun h => c_X5_spare_n x y hx) (fun h => c_X6_spare_n hR x y hx)
set_option maxHeartbeats 4000000 in
set_option maxRecDepth 100000 in
theorem ag_match : Agree mX5_match mX6_match [] := by
  intro E z w O D hR
  have hOK := hR.1.2.1.1
  have hN9 := hR.1.2.1.2
  have hT2 := hR.2.2.2.2.1
  have hOk := hR.xok
  have hx8 := hOk.2.1
  have hk8 := hOk.2.2
  have hm6 := hOK.1.1
  have hm4 := hOK.1.2.1
  exact ag_i (fun h => c_X5_match hOK) (fun h => c_X6_match hR)
set_option maxHeartbeats 4000000 in
set_option maxRecDepth 100000 in
theorem ag_care (x y : Int32) : Agree mX5_care mX6_care [.int x, .int y] := by
  intro E z w O D hR
  have hOK := hR.1.2.1.1
  have hN9 := hR.1.2.1.2
  have hT2 := hR.2.2.2.2.1
  have hOk := hR.xok
  have hx8 := hOk.2.1
  have hk8 := hOk.2.2
  have hm6 := hOK.1.1
  have hm4 := hOK.1.2.1
  by_cases hx : (0 ≤ x ∧ x < nI ((O.1.1 0).2 0)) ∧ (nI 1 ≤ y ∧ y ≤ nI 40)
  · obtain ⟨q0, q1⟩ := hx
    obtain ⟨a, ha, rfl⟩ := exL (by omega) q0
    obtain ⟨k, h1, hk, rfl⟩ := exW (by decide) (by decide) q1
    exact ag_g (fun h => c_X5_care hOK hT2 hN9 a k ha h1 hk) (fun h => c_X6_care hR a k ha h1 hk)
  · exact ag_i (fun h => c_X5_care_n x y hx) (fun h => c_X6_care_n hR x y hx)
set_option maxHeartbeats 4000000 in
set_option maxRecDepth 100000 in
theorem ag_leave (x y u : Int32) : Agree mX5_leave mX6_leave [.int x, .int y, .int u] := by
  intro E z w O D hR
  have hOK := hR.1.2.1.1
  have hN9 := hR.1.2.1.2
  have hT2 := hR.2.2.2.2.1
  have hOk := hR.xok
  have hx8 := hOk.2.1
  have hk8 := hOk.2.2
  have hm6 := hOK.1.1
  have hm4 := hOK.1.2.1
  by_cases hx : (0 ≤ x ∧ x < nI ((O.1.1 0).2 0)) ∧ (nI 0 ≤ y ∧ y ≤ nI 10) ∧ (nI 0 ≤ u ∧ u ≤ nI 1)
  · obtain ⟨q0, q1, q2⟩ := hx
    obtain ⟨a, ha, rfl⟩ := exL (by omega) q0
    obtain ⟨c, _, hc, rfl⟩ := exW (by decide) (by decide) q1
    obtain ⟨u, _, hu, rfl⟩ := exW (by decide) (by decide) q2
    exact ag_i (fun h => c_X5_leave hOK a c u ha hc hu) (fun h => c_X6_leave hR a c u ha hc hu)
  · exact ag_i (fun h => c_X5_leave_n x y u hx) (fun h => c_X6_leave_n hR x y u hx)
set_option maxHeartbeats 4000000 in
set_option maxRecDepth 100000 in
theorem ag_image : Agree mX5_image mX6_image [] := by
  intro E z w O D hR
  have hOK := hR.1.2.1.1
  have hN9 := hR.1.2.1.2
  have hT2 := hR.2.2.2.2.1
  have hOk := hR.xok
  have hx8 := hOk.2.1
  have hk8 := hOk.2.2
  have hm6 := hOK.1.1
  have hm4 := hOK.1.2.1
  exact ag_i (fun h => c_X5_image) (fun h => c_X6_image hR)
set_option maxHeartbeats 4000000 in
set_option maxRecDepth 100000 in
theorem ag_restore : Agree mX5_restore mX6_restore [] := by
  intro E z w O D hR
  have hOK := hR.1.2.1.1
  have hN9 := hR.1.2.1.2
  have hT2 := hR.2.2.2.2.1
  have hOk := hR.xok
  have hx8 := hOk.2.1
  have hk8 := hOk.2.2
  have hm6 := hOK.1.1
  have hm4 := hOK.1.2.1
  cases hb : O.2.2.2
  · exact ag_i (fun h => c_X5_restore_o hb) (fun h => c_X6_restore_o hR hb)
  · exact ag_i (fun h => c_X5_restore hb) (fun h => c_X6_restore hR hb)
set_option maxHeartbeats 4000000 in
set_option maxRecDepth 100000 in
theorem ag_grown (x s l i k u : Int32) : Agree mX5_grown mX6_grown [.int x, .int s, .int l, .int i, .int k, .int u] := by
  intro E z w O D hR
  have hOK := hR.1.2.1.1
  have hN9 := hR.1.2.1.2
  have hT2 := hR.2.2.2.2.1
  have hOk := hR.xok
  have hx8 := hOk.2.1
  have hk8 := hOk.2.2
  have hm6 := hOK.1.1
  have hm4 := hOK.1.2.1
  by_cases hx : (0 ≤ x ∧ x < nI ((O.1.1 0).2 0)) ∧ (0 ≤ s ∧ s < nI 4) ∧ (0 ≤ l ∧ l < nI 4) ∧ (nI 1 ≤ k ∧ k ≤ nI 8) ∧ (nI 0 ≤ u ∧ u ≤ nI 2)
  · obtain ⟨q0, q1, q2, q3, q4⟩ := hx
    obtain ⟨a, ha, rfl⟩ := exL (by omega) q0
    obtain ⟨s, hs, rfl⟩ := exL (by decide) q1
    obtain ⟨l, hl, rfl⟩ := exL (by decide) q2
    obtain ⟨k, h1, hk, rfl⟩ := exW (by decide) (by decide) q3
    obtain ⟨u, _, hu, rfl⟩ := exW (by decide) (by decide) q4
    have hz := (hR.2.2.1 s hs).2.2.1
    rcases sref_or (S := O.2.1 s) (i := i) hl hz (show k ≤ 24 by omega) with hr | ⟨hL, f, rfl, hf⟩
    · exact ag_i (fun h => c_X5_grown_r hOK a s l i k u ha hs hl h1 hk hu hr) (fun h => c_X6_grown_r hR a s l i k u ha hs hl h1 hk hu hr)
    · exact ag_g (fun h => c_X5_grown hOK hT2 hN9 a s l f k u ha hs hl h1 hk hu hL hz hf) (fun h => c_X6_grown hR a s l f k u ha hs hl h1 hk hu hL hz hf)
  · exact ag_i (fun h => c_X5_grown_n x s l i k u hx) (fun h => c_X6_grown_n hR x s l i k u hx)
set_option maxHeartbeats 4000000 in
set_option maxRecDepth 100000 in
theorem ag_film (x k s l i : Int32) : Agree mX5_film mX6_film [.int x, .int k, .int s, .int l, .int i] := by
  intro E z w O D hR
  have hOK := hR.1.2.1.1
  have hN9 := hR.1.2.1.2
  have hT2 := hR.2.2.2.2.1
  have hOk := hR.xok
  have hx8 := hOk.2.1
  have hk8 := hOk.2.2
  have hm6 := hOK.1.1
  have hm4 := hOK.1.2.1
  by_cases hx : (0 ≤ x ∧ x < nI ((O.1.1 0).2 0)) ∧ (nI 1 ≤ k ∧ k ≤ nI 24) ∧ (0 ≤ s ∧ s < nI 4) ∧ (0 ≤ l ∧ l < nI 4)
  · obtain ⟨q0, q1, q2, q3⟩ := hx
    obtain ⟨a, ha, rfl⟩ := exL (by omega) q0
    obtain ⟨k, h1, hk, rfl⟩ := exW (by decide) (by decide) q1
    obtain ⟨s, hs, rfl⟩ := exL (by decide) q2
    obtain ⟨l, hl, rfl⟩ := exL (by decide) q3
    have hz := (hR.2.2.1 s hs).2.2.1
    rcases sref_or (S := O.2.1 s) (i := i) hl hz hk with hr | ⟨hL, f, rfl, hf⟩
    · exact ag_i (fun h => c_X5_film_r hOK a k s l i ha hs hl h1 hk hr) (fun h => c_X6_film_r hR a k s l i ha hs hl h1 hk hr)
    · exact ag_g (fun h => c_X5_film hOK hT2 hN9 a k s l f ha hs hl h1 hk hL hz hf) (fun h => c_X6_film hR a k s l f ha hs hl h1 hk hL hz hf)
  · exact ag_i (fun h => c_X5_film_n x k s l i hx) (fun h => c_X6_film_n hR x k s l i hx)
set_option maxHeartbeats 4000000 in
set_option maxRecDepth 100000 in
theorem ag_sheet (s l k : Int32) : Agree mX5_sheet mX6_sheet [.int s, .int l, .int k] := by
  intro E z w O D hR
  have hOK := hR.1.2.1.1
  have hN9 := hR.1.2.1.2
  have hT2 := hR.2.2.2.2.1
  have hOk := hR.xok
  have hx8 := hOk.2.1
  have hk8 := hOk.2.2
  have hm6 := hOK.1.1
  have hm4 := hOK.1.2.1
  by_cases hx : (0 ≤ s ∧ s < nI 4) ∧ (0 ≤ l ∧ l < nI 4) ∧ k ≤ nI 24
  · obtain ⟨q0, q1, q2⟩ := hx
    obtain ⟨s, hs, rfl⟩ := exL (by decide) q0
    obtain ⟨l, hl, rfl⟩ := exL (by decide) q1
    by_cases hb : k < 0
    · exact ag_i (fun h => c_X5_sheet_z s l k hs hl hb) (fun h => c_X6_sheet_z hR s l k hs hl hb)
    · obtain ⟨k, _, hk, rfl⟩ := exW (lo := 0) (hi := 24) (by decide) (by decide) ⟨Int32.not_lt.mp hb, q2⟩
      exact ag_i (fun h => c_X5_sheet s l k hs hl hk) (fun h => c_X6_sheet hR s l k hs hl hk)
  · exact ag_i (fun h => c_X5_sheet_n s l k hx) (fun h => c_X6_sheet_n hR s l k hx)
set_option maxHeartbeats 4000000 in
set_option maxRecDepth 100000 in
theorem ag_drop (s : Int32) : Agree mX5_drop mX6_drop [.int s] := by
  intro E z w O D hR
  have hOK := hR.1.2.1.1
  have hN9 := hR.1.2.1.2
  have hT2 := hR.2.2.2.2.1
  have hOk := hR.xok
  have hx8 := hOk.2.1
  have hk8 := hOk.2.2
  have hm6 := hOK.1.1
  have hm4 := hOK.1.2.1
  by_cases hx : (0 ≤ s ∧ s < nI 4)
  · have q0 := hx
    obtain ⟨s, hs, rfl⟩ := exL (by decide) q0
    by_cases hb : (O.2.1 s).2.1 = -1
    · exact ag_i (fun h => c_X5_drop_o s hs hb) (fun h => c_X6_drop_o hR s hs hb)
    · exact ag_i (fun h => c_X5_drop s hs hb) (fun h => c_X6_drop hR s hs hb)
  · exact ag_i (fun h => c_X5_drop_n s hx) (fun h => c_X6_drop_n hR s hx)
set_option maxHeartbeats 4000000 in
set_option maxRecDepth 100000 in
theorem ag_item (s l i : Int32) (v : Int64) : Agree mX5_item mX6_item [.int s, .int l, .int i, .long v] := by
  intro E z w O D hR
  have hOK := hR.1.2.1.1
  have hN9 := hR.1.2.1.2
  have hT2 := hR.2.2.2.2.1
  have hOk := hR.xok
  have hx8 := hOk.2.1
  have hk8 := hOk.2.2
  have hm6 := hOK.1.1
  have hm4 := hOK.1.2.1
  by_cases hx : (0 ≤ s ∧ s < nI 4) ∧ (0 ≤ l ∧ l < nI 4)
  · obtain ⟨q0, q1⟩ := hx
    obtain ⟨s, hs, rfl⟩ := exL (by decide) q0
    obtain ⟨l, hl, rfl⟩ := exL (by decide) q1
    have hz := (hR.2.2.1 s hs).2.2.1
    rcases sref_or (S := O.2.1 s) (i := i) (k := 1) hl hz (by decide) with hr | ⟨hL, f, rfl, hf⟩
    · exact ag_i (fun h => c_X5_item_r s l i v hs hl hr) (fun h => c_X6_item_r hR s l i v hs hl hr)
    · exact ag_i (fun h => c_X5_item s l f v hs hl hL hz hf) (fun h => c_X6_item hR s l f v hs hl hL hz hf)
  · exact ag_i (fun h => c_X5_item_n s l i v hx) (fun h => c_X6_item_n hR s l i v hx)
set_option maxHeartbeats 4000000 in
set_option maxRecDepth 100000 in
theorem ag_copy (s i t j k : Int32) : Agree mX5_copy mX6_copy [.int s, .int i, .int t, .int j, .int k] := by
  intro E z w O D hR
  have hOK := hR.1.2.1.1
  have hN9 := hR.1.2.1.2
  have hT2 := hR.2.2.2.2.1
  have hOk := hR.xok
  have hx8 := hOk.2.1
  have hk8 := hOk.2.2
  have hm6 := hOK.1.1
  have hm4 := hOK.1.2.1
  by_cases hx : (0 ≤ s ∧ s < nI 4) ∧ (0 ≤ t ∧ t < nI 4)
  · obtain ⟨q0, q1⟩ := hx
    obtain ⟨s, hs, rfl⟩ := exL (by decide) q0
    obtain ⟨t, ht, rfl⟩ := exL (by decide) q1
    have hz1 := (hR.2.2.1 s hs).2.2.1
    have hz2 := (hR.2.2.1 t ht).2.2.1
    by_cases hn : (O.2.1 s).2.1 ≠ -1 ∧ (O.2.1 t).2.1 ≠ -1
    · by_cases hc : (O.2.1 s).2.1 = (O.2.1 t).2.1
      · by_cases hh : shold (O.2.1 s) i k = true ∧ shold (O.2.1 t) j k = true
        · obtain ⟨f, m, rfl, rfl, hf⟩ := shold_ex hz1 hh.1
          obtain ⟨g, m2, rfl, e, hg⟩ := shold_ex hz2 hh.2
          have e2 : m = m2 := (nI_eq (by omega) (by omega)).mp e
          subst e2
          exact ag_i (fun h => c_X5_copy s f t g m hs ht hn hc hz1 hz2 hf hg) (fun h => c_X6_copy hR s f t g m hs ht hn hc hz1 hz2 hf hg)
        · exact ag_i (fun h => c_X5_copy_i s t i j k hs ht hn hc hh) (fun h => c_X6_copy_i hR s t i j k hs ht hn hc hh)
      · exact ag_i (fun h => c_X5_copy_c s t i j k hs ht hn hc) (fun h => c_X6_copy_c hR s t i j k hs ht hn hc)
    · exact ag_i (fun h => c_X5_copy_o s t i j k hs ht hn) (fun h => c_X6_copy_o hR s t i j k hs ht hn)
  · exact ag_i (fun h => c_X5_copy_n s i t j k hx) (fun h => c_X6_copy_n hR s i t j k hx)
