/-! ===== the class: sheets ===== -/
section PXSS
variable {E : xE} {M M2 : xM} {Q : Option Value → xHp → Prop} {k n pc s : Nat} {lo : List (Option Value)} {r av : List Value} {h : xHp} {z : Nat} {O : xO} {x : Int32}
theorem px_rsh (hd : decode (xC M) pc = .ok (.aaload, 1)) (hs : s < 4) (kk : PW E M Q k n (pc + 1) lo (.ref (z + 149 + 2 * s) :: r) (RO E h z O)) : PW E M Q k n pc lo (.int (nI s) :: .ref (z + 148) :: r) (RO E h z O) := by
  refine px_aald4 hd RO_sh (vp_in_nI hs (by decide)) ?_
  rw [nI_clamp (by omega)]
  exact kk
theorem osr {S : xS} (hs : s < 4) (he : O.2.1 s = S) (hm : PMI E M av (SH E (RO E h z O) (z + 149 + 2 * s) S) x (SH E (RO E h z O) (z + 149 + 2 * s) S)) : PMI E M av (RO E h z O) x (RO E h z O) := by
  subst he
  rw [ro_sa hs] at hm; exact hm
theorem osv {S : xS} (hs : s < 4) (hm : PMV E M av (SH E (RO E h z O) (z + 149 + 2 * s) (O.2.1 s)) (SH E (RO E h z O) (z + 149 + 2 * s) S)) : PMV E M av (RO E h z O) (RO E h z (oS O s S)) := by
  rw [ro_sa hs, ro_s hs] at hm; exact hm
theorem ro_xfs (hs : s < 4) : xFs (RO E h z O) (z + 131) (z + 1) (z + 132) (z + 149 + 2 * s) := ⟨ro_xfo, by omega, by omega, by omega⟩
theorem fs_g (hs : s < 4) (hm : PMF E M av (FH E (SH E (RO E h z O) (z + 149 + 2 * s) (O.2.1 s)) (z + 1) (z + 132) (O.1.1 0) (O.1.1 2)) x (SH E (RO E h z O) (z + 149 + 2 * s) (O.2.1 s)) (z + 1) (z + 132) (O.1.1 0)) : PMG E M av (RO E h z O) x h z O := by
  rw [ro_sa hs] at hm
  exact fo_g hm
theorem fo_tl (hs : s < 4) {a f m : Nat} (hOK : tOK (O.1.1 0)) (ha : a < 6) (hm8 : m ≤ 24) (hfm : f + m ≤ 24) (l : Nat) (hl : l < 4) (hL : (O.2.1 s).2.1 = nI l) (hn : (O.1.1 0).2 4 ≤ 9999) : PMet E mX0_tell [.ref (z + 131), .ref (z + 1), .int (nI a), .ref (z + 149 + 2 * s), .int (nI f), .int (nI m)] (RO E h z O) (fun v h' => v = none ∧ ∃ T' : xT, tOK T' ∧ h' = RO E h z (oT (oS O s (stell (O.1.1 0) a (O.2.1 s) f m)) 2 T')) := by
  have := c_X0_tell (E := E) (h := RO E h z O) (bF := z + 131) (bn := z + 1) (bt := z + 132) (bs := z + 149 + 2 * s) (Tn := O.1.1 0) (Tt := O.1.1 2) (S := O.2.1 s) (ro_xfs hs) hOK a f m ha hm8 hfm l hl hL (by omega)
  rw [ro_sa hs, ro_fha] at this
  refine pm_mono this (fun v h' hq => ?_)
  obtain ⟨e, T', hT, rfl⟩ := hq
  refine ⟨e, T', hT, ?_⟩
  rw [ro_s hs]
  exact ro_fh (O := oS O s (stell (O.1.1 0) a (O.2.1 s) f m))
end PXSS
theorem nI_sub {a b : Nat} (h : b ≤ a) : nI a - nI b = nI (a - b) := pk_sub h
theorem shold_ok {S : xS} {f m : Nat} (hz : S.2.2 ≤ 24) (hf : f + m ≤ S.2.2) : shold S (nI f) (nI m) = true := decide_eq_true ⟨nI_pos' (by omega), nI_pos' (by omega), by rw [nI_sub (by omega)]; exact nI_le (by omega) (by omega)⟩
theorem sref_ok {S : xS} {l f m : Nat} (hl : l < 4) (hL : S.2.1 = nI l) (hz : S.2.2 ≤ 24) (hf : f + m ≤ S.2.2) : sref S (nI l) (nI f) (nI m) = nI 0 := by
  unfold sref
  rw [if_neg (by rw [hL]; intro q; exact absurd (q ▸ nI_pos' (by omega) : (0 : Int32) ≤ -1) (by decide)), if_pos hL, if_pos (shold_ok hz hf)]
theorem is4_t {s : Nat} (hs : s < 4) : decide (0 ≤ nI s ∧ nI s < nI 4) = true := decide_eq_true ⟨nI_pos' (by omega), nI_lt hs (by decide)⟩
theorem c_sh_y {E : xE} {h : xHp} {s : Nat} (hs : s < 4) : PMI E mX5_isSheet [.int (nI s)] h (bI true) h := by
  have := c_X5_isSheet (E := E) (h := h) (nI s)
  rw [is4_t hs] at this
  exact this
theorem c_la_y {E : xE} {h : xHp} {s : Nat} (hs : s < 4) : PMI E mX5_isLane [.int (nI s)] h (bI true) h := by
  have := c_X5_isLane (E := E) (h := h) (nI s)
  rw [is4_t hs] at this
  exact this
theorem c_rf_y {E : xE} {h : xHp} {z : Nat} {O : xO} {s l f m : Nat} (hs : s < 4) (hl : l < 4) (hL : (O.2.1 s).2.1 = nI l) (hz : (O.2.1 s).2.2 ≤ 24) (hf : f + m ≤ (O.2.1 s).2.2) : PMI E mX2_refusal [.ref (z + 149 + 2 * s), .int (nI l), .int (nI f), .int (nI m)] (RO E h z O) (nI 0) (RO E h z O) := by
  have := osr hs rfl (c_X2_refusal (E := E) (h := RO E h z O) (b := z + 149 + 2 * s) (S := O.2.1 s) (nI l) (nI f) (nI m))
  rw [sref_ok hl hL hz hf] at this
  exact this
set_option maxHeartbeats 4000000 in
set_option maxRecDepth 100000 in
theorem c_X5_grown_n {E : xE} {h : xHp} {z : Nat} {O : xO} (x s l i k w : Int32) (hx : ¬ ((0 ≤ x ∧ x < nI ((O.1.1 0).2 0)) ∧ (0 ≤ s ∧ s < nI 4) ∧ (0 ≤ l ∧ l < nI 4) ∧ (nI 1 ≤ k ∧ k ≤ nI 8) ∧ (nI 0 ≤ w ∧ w ≤ nI 2))) : PMI E mX5_grown [.ref z, .int x, .int s, .int l, .int i, .int k, .int w] (RO E h z O) (-1) (RO E h z O) := by
  refine pm_of [some (.ref z), some (.int x), some (.int s), some (.int l), some (.int i), some (.int k), some (.int w), none, none] (by decide +kernel) (Nat.le_of_ble_eq_true rfl) rfl ?_
  refine px_aload_n dX5_grown_0 rfl ?_
  refine px_iload_n dX5_grown_1 rfl ?_
  refine px_vi (M2 := mX5_isApprentice) (c_X5_isApprentice x) mw_X5_isApprentice wm_X5_isApprentice we_X5_isApprentice (Or.inl ml_X5_78) dX5_grown_2 (RO_obj) rfl (by decide) rfl rfl (Nat.le_of_ble_eq_true rfl) ⟨rfl, rfl⟩ ?_
  refine px_if_eqB 22 dX5_grown_5 (by decide) (fun c5 => ?_) (fun c5 => ?_)
  · refine px_iconst (v := -1) dX5_grown_22 (by decide) ?_
    exact px_iret dX5_grown_23 rfl rfl rfl ⟨rfl, rfl⟩
  · refine px_iload_n dX5_grown_8 rfl ?_
    refine px_si (c_X5_isSheet s) mw_X5_isSheet wt_X5_isSheet (Or.inl ml_X5_220) dX5_grown_9 (by decide) rfl rfl (Nat.le_of_ble_eq_true rfl) ⟨rfl, rfl⟩ ?_
    refine px_if_eqB 22 dX5_grown_12 (by decide) (fun c12 => ?_) (fun c12 => ?_)
    · refine px_iconst (v := -1) dX5_grown_22 (by decide) ?_
      exact px_iret dX5_grown_23 rfl rfl rfl ⟨rfl, rfl⟩
    · refine px_iload_n dX5_grown_15 rfl ?_
      refine px_si (c_X5_isLane l) mw_X5_isLane wt_X5_isLane (Or.inl ml_X5_223) dX5_grown_16 (by decide) rfl rfl (Nat.le_of_ble_eq_true rfl) ⟨rfl, rfl⟩ ?_
      refine px_if_neB 24 dX5_grown_19 (by decide) (fun c19 => ?_) (fun c19 => ?_)
      · refine px_iload dX5_grown_24 rfl ?_
        refine px_iconst (v := nI 1) dX5_grown_26 (by decide) ?_
        refine px_bipush (v := nI 8) dX5_grown_27 (by decide) ?_
        refine px_si (c_X5_isWithin (k) (nI 1) (nI 8)) mw_X5_isWithin wt_X5_isWithin (Or.inl ml_X5_53) dX5_grown_29 (by decide) rfl rfl (Nat.le_of_ble_eq_true rfl) ⟨rfl, rfl⟩ ?_
        refine px_if_eqB 45 dX5_grown_32 (by decide) (fun c32 => ?_) (fun c32 => ?_)
        · refine px_iconst (v := -1) dX5_grown_45 (by decide) ?_
          exact px_iret dX5_grown_46 rfl rfl rfl ⟨rfl, rfl⟩
        · refine px_iload dX5_grown_35 rfl ?_
          refine px_iconst (v := nI 0) dX5_grown_37 (by decide) ?_
          refine px_iconst (v := nI 2) dX5_grown_38 (by decide) ?_
          refine px_si (c_X5_isWithin (w) (nI 0) (nI 2)) mw_X5_isWithin wt_X5_isWithin (Or.inl ml_X5_53) dX5_grown_39 (by decide) rfl rfl (Nat.le_of_ble_eq_true rfl) ⟨rfl, rfl⟩ ?_
          refine px_if_neB 47 dX5_grown_42 (by decide) (fun c42 => ?_) (fun c42 => ?_)
          · exact absurd ⟨of_decide_eq_true c5, of_decide_eq_true c12, of_decide_eq_true c19, of_decide_eq_true c32, of_decide_eq_true c42⟩ hx
          · refine px_iconst (v := -1) dX5_grown_45 (by decide) ?_
            exact px_iret dX5_grown_46 rfl rfl rfl ⟨rfl, rfl⟩
      · refine px_iconst (v := -1) dX5_grown_22 (by decide) ?_
        exact px_iret dX5_grown_23 rfl rfl rfl ⟨rfl, rfl⟩
set_option maxHeartbeats 4000000 in
set_option maxRecDepth 100000 in
theorem c_X5_grown_r {E : xE} {h : xHp} {z : Nat} {O : xO} (hOK : tOK (O.1.1 0)) (a s l : Nat) (i : Int32) (k w : Nat) (ha : a < (O.1.1 0).2 0) (hs : s < 4) (hl : l < 4) (h1 : 1 ≤ k) (hk : k ≤ 8) (hw : w ≤ 2) (hr : sref (O.2.1 s) (nI l) i (nI k) < 0) : PMI E mX5_grown [.ref z, .int (nI a), .int (nI s), .int (nI l), .int i, .int (nI k), .int (nI w)] (RO E h z O) (sref (O.2.1 s) (nI l) i (nI k)) (RO E h z O) := by
  have hm6 := hOK.1.1
  refine pm_of [some (.ref z), some (.int (nI a)), some (.int (nI s)), some (.int (nI l)), some (.int i), some (.int (nI k)), some (.int (nI w)), none, none] (by decide +kernel) (Nat.le_of_ble_eq_true rfl) rfl ?_
  refine px_aload_n dX5_grown_0 rfl ?_
  refine px_iload_n dX5_grown_1 rfl ?_
  refine px_vi (M2 := mX5_isApprentice) (c_isA_y ha (by have := hOK.1.1; omega)) mw_X5_isApprentice wm_X5_isApprentice we_X5_isApprentice (Or.inl ml_X5_78) dX5_grown_2 (RO_obj) rfl (by decide) rfl rfl (Nat.le_of_ble_eq_true rfl) ⟨rfl, rfl⟩ ?_
  refine px_if_eqB 22 dX5_grown_5 (by decide) (fun c5 => ?_) (fun c5 => ?_)
  · cases c5
  · refine px_iload_n dX5_grown_8 rfl ?_
    refine px_si (c_sh_y hs) mw_X5_isSheet wt_X5_isSheet (Or.inl ml_X5_220) dX5_grown_9 (by decide) rfl rfl (Nat.le_of_ble_eq_true rfl) ⟨rfl, rfl⟩ ?_
    refine px_if_eqB 22 dX5_grown_12 (by decide) (fun c12 => ?_) (fun c12 => ?_)
    · cases c12
    · refine px_iload_n dX5_grown_15 rfl ?_
      refine px_si (c_la_y hl) mw_X5_isLane wt_X5_isLane (Or.inl ml_X5_223) dX5_grown_16 (by decide) rfl rfl (Nat.le_of_ble_eq_true rfl) ⟨rfl, rfl⟩ ?_
      refine px_if_neB 24 dX5_grown_19 (by decide) (fun c19 => ?_) (fun c19 => ?_)
      · refine px_iload dX5_grown_24 rfl ?_
        refine px_iconst (v := nI 1) dX5_grown_26 (by decide) ?_
        refine px_bipush (v := nI 8) dX5_grown_27 (by decide) ?_
        refine px_si (c_X5_isWithin (nI k) (nI 1) (nI 8)) mw_X5_isWithin wt_X5_isWithin (Or.inl ml_X5_53) dX5_grown_29 (by decide) rfl rfl (Nat.le_of_ble_eq_true rfl) ⟨rfl, rfl⟩ ?_
        refine px_if_eqB 45 dX5_grown_32 (by decide) (fun c32 => ?_) (fun c32 => ?_)
        · rw [in_t (by omega) (by omega) (by decide)] at c32
          cases c32
        · refine px_iload dX5_grown_35 rfl ?_
          refine px_iconst (v := nI 0) dX5_grown_37 (by decide) ?_
          refine px_iconst (v := nI 2) dX5_grown_38 (by decide) ?_
          refine px_si (c_X5_isWithin (nI w) (nI 0) (nI 2)) mw_X5_isWithin wt_X5_isWithin (Or.inl ml_X5_53) dX5_grown_39 (by decide) rfl rfl (Nat.le_of_ble_eq_true rfl) ⟨rfl, rfl⟩ ?_
          refine px_if_neB 47 dX5_grown_42 (by decide) (fun c42 => ?_) (fun c42 => ?_)
          · refine px_aload_n dX5_grown_47 rfl ?_
            refine px_get xk_X5 8 dX5_grown_48 (Or.inl fl_X5_48) RO_obj (by decide) rfl ?_
            refine px_iload_n dX5_grown_51 rfl ?_
            refine px_rsh dX5_grown_52 hs ?_
            refine px_ast_7 dX5_grown_53 (by decide) rfl ?_
            refine px_aload dX5_grown_55 rfl ?_
            refine px_iload_n dX5_grown_57 rfl ?_
            refine px_iload dX5_grown_58 rfl ?_
            refine px_iload dX5_grown_60 rfl ?_
            refine px_vi (M2 := mX2_refusal) (osr hs rfl (c_X2_refusal (nI l) i (nI k))) mw_X2_refusal wm_X2_refusal we_X2_refusal (Or.inr ⟨_, ml_X5_226⟩) dX5_grown_62 ((ro_so hs)) rfl (by decide) rfl rfl (Nat.le_of_ble_eq_true rfl) ⟨rfl, rfl⟩ ?_
            refine px_ist_8 dX5_grown_65 (by decide) rfl ?_
            refine px_iload dX5_grown_67 rfl ?_
            refine px_if_ge 75 dX5_grown_69 (by decide) (fun c69 => ?_) (fun c69 => ?_)
            · exact absurd hr (Int32.not_lt.mpr c69)
            · refine px_iload dX5_grown_72 rfl ?_
              exact px_iret dX5_grown_74 rfl rfl rfl ⟨rfl, rfl⟩
          · rw [in_t (by omega) (by omega) (by decide)] at c42
            cases c42
      · cases c19
def tgrwn (T : xT) (a : Nat) (its : Nat → Int64) (f m w : Nat) : Int32 := if w = 0 then nI (tkin T a its f m 5) else tnl T a its f m (decide (w = 2))
set_option maxHeartbeats 4000000 in
set_option maxRecDepth 100000 in
theorem c_X5_grown {E : xE} {h : xHp} {z : Nat} {O : xO} (hOK : tOK (O.1.1 0)) (hT : tOK (O.1.1 2)) (hN : (O.1.1 0).2 4 ≤ 9999) (a s l f k w : Nat) (ha : a < (O.1.1 0).2 0) (hs : s < 4) (hl : l < 4) (h1 : 1 ≤ k) (hk : k ≤ 8) (hw : w ≤ 2) (hL : (O.2.1 s).2.1 = nI l) (hz : (O.2.1 s).2.2 ≤ 24) (hf : f + k ≤ (O.2.1 s).2.2) : PMG E mX5_grown [.ref z, .int (nI a), .int (nI s), .int (nI l), .int (nI f), .int (nI k), .int (nI w)] (RO E h z O) (tgrwn (O.1.1 0) a (O.2.1 s).1 f k w) h z O := by
  have hm6 := hOK.1.1
  refine pm_of [some (.ref z), some (.int (nI a)), some (.int (nI s)), some (.int (nI l)), some (.int (nI f)), some (.int (nI k)), some (.int (nI w)), none, none] (by decide +kernel) (Nat.le_of_ble_eq_true rfl) rfl ?_
  refine px_aload_n dX5_grown_0 rfl ?_
  refine px_iload_n dX5_grown_1 rfl ?_
  refine px_vi (M2 := mX5_isApprentice) (c_isA_y ha (by have := hOK.1.1; omega)) mw_X5_isApprentice wm_X5_isApprentice we_X5_isApprentice (Or.inl ml_X5_78) dX5_grown_2 (RO_obj) rfl (by decide) rfl rfl (Nat.le_of_ble_eq_true rfl) ⟨rfl, rfl⟩ ?_
  refine px_if_eqB 22 dX5_grown_5 (by decide) (fun c5 => ?_) (fun c5 => ?_)
  · cases c5
  · refine px_iload_n dX5_grown_8 rfl ?_
    refine px_si (c_sh_y hs) mw_X5_isSheet wt_X5_isSheet (Or.inl ml_X5_220) dX5_grown_9 (by decide) rfl rfl (Nat.le_of_ble_eq_true rfl) ⟨rfl, rfl⟩ ?_
    refine px_if_eqB 22 dX5_grown_12 (by decide) (fun c12 => ?_) (fun c12 => ?_)
    · cases c12
    · refine px_iload_n dX5_grown_15 rfl ?_
      refine px_si (c_la_y hl) mw_X5_isLane wt_X5_isLane (Or.inl ml_X5_223) dX5_grown_16 (by decide) rfl rfl (Nat.le_of_ble_eq_true rfl) ⟨rfl, rfl⟩ ?_
      refine px_if_neB 24 dX5_grown_19 (by decide) (fun c19 => ?_) (fun c19 => ?_)
      · refine px_iload dX5_grown_24 rfl ?_
        refine px_iconst (v := nI 1) dX5_grown_26 (by decide) ?_
        refine px_bipush (v := nI 8) dX5_grown_27 (by decide) ?_
        refine px_si (c_X5_isWithin (nI k) (nI 1) (nI 8)) mw_X5_isWithin wt_X5_isWithin (Or.inl ml_X5_53) dX5_grown_29 (by decide) rfl rfl (Nat.le_of_ble_eq_true rfl) ⟨rfl, rfl⟩ ?_
        refine px_if_eqB 45 dX5_grown_32 (by decide) (fun c32 => ?_) (fun c32 => ?_)
        · rw [in_t (by omega) (by omega) (by decide)] at c32
          cases c32
        · refine px_iload dX5_grown_35 rfl ?_
          refine px_iconst (v := nI 0) dX5_grown_37 (by decide) ?_
          refine px_iconst (v := nI 2) dX5_grown_38 (by decide) ?_
          refine px_si (c_X5_isWithin (nI w) (nI 0) (nI 2)) mw_X5_isWithin wt_X5_isWithin (Or.inl ml_X5_53) dX5_grown_39 (by decide) rfl rfl (Nat.le_of_ble_eq_true rfl) ⟨rfl, rfl⟩ ?_
          refine px_if_neB 47 dX5_grown_42 (by decide) (fun c42 => ?_) (fun c42 => ?_)
          · refine px_aload_n dX5_grown_47 rfl ?_
            refine px_get xk_X5 8 dX5_grown_48 (Or.inl fl_X5_48) RO_obj (by decide) rfl ?_
            refine px_iload_n dX5_grown_51 rfl ?_
            refine px_rsh dX5_grown_52 hs ?_
            refine px_ast_7 dX5_grown_53 (by decide) rfl ?_
            refine px_aload dX5_grown_55 rfl ?_
            refine px_iload_n dX5_grown_57 rfl ?_
            refine px_iload dX5_grown_58 rfl ?_
            refine px_iload dX5_grown_60 rfl ?_
            refine px_vi (M2 := mX2_refusal) (c_rf_y hs hl hL hz hf) mw_X2_refusal wm_X2_refusal we_X2_refusal (Or.inr ⟨_, ml_X5_226⟩) dX5_grown_62 ((ro_so hs)) rfl (by decide) rfl rfl (Nat.le_of_ble_eq_true rfl) ⟨rfl, rfl⟩ ?_
            refine px_ist_8 dX5_grown_65 (by decide) rfl ?_
            refine px_iload dX5_grown_67 rfl ?_
            refine px_if_ge 75 dX5_grown_69 (by decide) (fun _ => ?_) (fun z => absurd z (by decide))
            refine px_iload dX5_grown_75 rfl ?_
            refine px_if_neN 99 dX5_grown_77 (by decide) (by first | omega | exact hOK.lt (by decide) | exact hOK.lts (by decide)) (fun c77 => ?_) (fun c77 => ?_)
            · refine px_aload_n dX5_grown_99 rfl ?_
              refine px_get xk_X5 5 dX5_grown_100 (Or.inl fl_X5_32) RO_obj (by decide) rfl ?_
              refine px_aload_n dX5_grown_103 rfl ?_
              refine px_get xk_X5 0 dX5_grown_104 (Or.inl fl_X5_10) RO_obj (by decide) rfl ?_
              refine px_iload_n dX5_grown_107 rfl ?_
              refine px_aload dX5_grown_108 rfl ?_
              refine px_iload dX5_grown_110 rfl ?_
              refine px_iload dX5_grown_112 rfl ?_
              refine px_iload dX5_grown_114 rfl ?_
              refine px_iconst (v := nI 2) dX5_grown_116 (by decide) ?_
              refine px_icmp_neN 124 dX5_grown_117 (by decide) (by first | omega | exact hOK.lt (by decide) | exact hOK.lts (by decide)) (by first | omega | exact hOK.lt (by decide) | exact hOK.lts (by decide)) (fun c117 => ?_) (fun c117 => ?_)
              · refine px_iconst (v := nI 0) dX5_grown_124 (by decide) ?_
                refine px_vg (M2 := mX0_numbersTold) (fs_g hs (c_X0_numbersTold (ro_xfs hs) hOK hT a f k (by omega) (by omega) (by omega) false (by omega))) mw_X0_numbersTold wm_X0_numbersTold we_X0_numbersTold (Or.inr ⟨_, ml_X5_233⟩) dX5_grown_125 (RO_fo) rfl (by decide) rfl rfl (Nat.le_of_ble_eq_true rfl) ⟨rfl, rfl⟩ (fun T1 hT1 => ?_)
                exact px_iret dX5_grown_128 rfl rfl rfl ⟨by unfold tgrwn; rw [if_neg c77, decide_eq_false c117], T1, hT1, rfl⟩
              · refine px_iconst (v := nI 1) dX5_grown_120 (by decide) ?_
                refine px_goto 125 dX5_grown_121 (by decide) ?_
                refine px_vg (M2 := mX0_numbersTold) (fs_g hs (c_X0_numbersTold (ro_xfs hs) hOK hT a f k (by omega) (by omega) (by omega) true (by omega))) mw_X0_numbersTold wm_X0_numbersTold we_X0_numbersTold (Or.inr ⟨_, ml_X5_233⟩) dX5_grown_125 (RO_fo) rfl (by decide) rfl rfl (Nat.le_of_ble_eq_true rfl) ⟨rfl, rfl⟩ (fun T2 hT2 => ?_)
                exact px_iret dX5_grown_128 rfl rfl rfl ⟨by unfold tgrwn; rw [if_neg c77, decide_eq_true c117], T2, hT2, rfl⟩
            · refine px_aload_n dX5_grown_80 rfl ?_
              refine px_get xk_X5 5 dX5_grown_81 (Or.inl fl_X5_32) RO_obj (by decide) rfl ?_
              refine px_aload_n dX5_grown_84 rfl ?_
              refine px_get xk_X5 0 dX5_grown_85 (Or.inl fl_X5_10) RO_obj (by decide) rfl ?_
              refine px_iload_n dX5_grown_88 rfl ?_
              refine px_aload dX5_grown_89 rfl ?_
              refine px_iload dX5_grown_91 rfl ?_
              refine px_iload dX5_grown_93 rfl ?_
              refine px_vg (M2 := mX0_kindsTold) (fs_g hs (c_X0_kindsTold (ro_xfs hs) hOK hT a f k (by omega) (by omega) (by omega) (by omega))) mw_X0_kindsTold wm_X0_kindsTold we_X0_kindsTold (Or.inr ⟨_, ml_X5_229⟩) dX5_grown_95 (RO_fo) rfl (by decide) rfl rfl (Nat.le_of_ble_eq_true rfl) ⟨rfl, rfl⟩ (fun T3 hT3 => ?_)
              exact px_iret dX5_grown_98 rfl rfl rfl ⟨by unfold tgrwn; rw [if_pos c77], T3, hT3, rfl⟩
          · rw [in_t (by omega) (by omega) (by decide)] at c42
            cases c42
      · cases c19
set_option maxHeartbeats 4000000 in
set_option maxRecDepth 100000 in
theorem c_X5_film_n {E : xE} {h : xHp} {z : Nat} {O : xO} (x k s l i : Int32) (hx : ¬ ((0 ≤ x ∧ x < nI ((O.1.1 0).2 0)) ∧ (nI 1 ≤ k ∧ k ≤ nI 24) ∧ (0 ≤ s ∧ s < nI 4) ∧ (0 ≤ l ∧ l < nI 4))) : PMI E mX5_film [.ref z, .int x, .int k, .int s, .int l, .int i] (RO E h z O) (-1) (RO E h z O) := by
  refine pm_of [some (.ref z), some (.int x), some (.int k), some (.int s), some (.int l), some (.int i), none, none] (by decide +kernel) (Nat.le_of_ble_eq_true rfl) rfl ?_
  refine px_aload_n dX5_film_0 rfl ?_
  refine px_iload_n dX5_film_1 rfl ?_
  refine px_vi (M2 := mX5_isApprentice) (c_X5_isApprentice x) mw_X5_isApprentice wm_X5_isApprentice we_X5_isApprentice (Or.inl ml_X5_78) dX5_film_2 (RO_obj) rfl (by decide) rfl rfl (Nat.le_of_ble_eq_true rfl) ⟨rfl, rfl⟩ ?_
  refine px_if_eqB 33 dX5_film_5 (by decide) (fun c5 => ?_) (fun c5 => ?_)
  · refine px_iconst (v := -1) dX5_film_33 (by decide) ?_
    exact px_iret dX5_film_34 rfl rfl rfl ⟨rfl, rfl⟩
  · refine px_iload_n dX5_film_8 rfl ?_
    refine px_iconst (v := nI 1) dX5_film_9 (by decide) ?_
    refine px_bipush (v := nI 24) dX5_film_10 (by decide) ?_
    refine px_si (c_X5_isWithin (k) (nI 1) (nI 24)) mw_X5_isWithin wt_X5_isWithin (Or.inl ml_X5_53) dX5_film_12 (by decide) rfl rfl (Nat.le_of_ble_eq_true rfl) ⟨rfl, rfl⟩ ?_
    refine px_if_eqB 33 dX5_film_15 (by decide) (fun c15 => ?_) (fun c15 => ?_)
    · refine px_iconst (v := -1) dX5_film_33 (by decide) ?_
      exact px_iret dX5_film_34 rfl rfl rfl ⟨rfl, rfl⟩
    · refine px_iload_n dX5_film_18 rfl ?_
      refine px_si (c_X5_isSheet s) mw_X5_isSheet wt_X5_isSheet (Or.inl ml_X5_220) dX5_film_19 (by decide) rfl rfl (Nat.le_of_ble_eq_true rfl) ⟨rfl, rfl⟩ ?_
      refine px_if_eqB 33 dX5_film_22 (by decide) (fun c22 => ?_) (fun c22 => ?_)
      · refine px_iconst (v := -1) dX5_film_33 (by decide) ?_
        exact px_iret dX5_film_34 rfl rfl rfl ⟨rfl, rfl⟩
      · refine px_iload dX5_film_25 rfl ?_
        refine px_si (c_X5_isLane l) mw_X5_isLane wt_X5_isLane (Or.inl ml_X5_223) dX5_film_27 (by decide) rfl rfl (Nat.le_of_ble_eq_true rfl) ⟨rfl, rfl⟩ ?_
        refine px_if_neB 35 dX5_film_30 (by decide) (fun c30 => ?_) (fun c30 => ?_)
        · exact absurd ⟨of_decide_eq_true c5, of_decide_eq_true c15, of_decide_eq_true c22, of_decide_eq_true c30⟩ hx
        · refine px_iconst (v := -1) dX5_film_33 (by decide) ?_
          exact px_iret dX5_film_34 rfl rfl rfl ⟨rfl, rfl⟩
set_option maxHeartbeats 4000000 in
set_option maxRecDepth 100000 in
theorem c_X5_film_r {E : xE} {h : xHp} {z : Nat} {O : xO} (hOK : tOK (O.1.1 0)) (a k s l : Nat) (i : Int32) (ha : a < (O.1.1 0).2 0) (hs : s < 4) (hl : l < 4) (h1 : 1 ≤ k) (hk : k ≤ 24) (hr : sref (O.2.1 s) (nI l) i (nI k) < 0) : PMI E mX5_film [.ref z, .int (nI a), .int (nI k), .int (nI s), .int (nI l), .int i] (RO E h z O) (sref (O.2.1 s) (nI l) i (nI k)) (RO E h z O) := by
  have hm6 := hOK.1.1
  refine pm_of [some (.ref z), some (.int (nI a)), some (.int (nI k)), some (.int (nI s)), some (.int (nI l)), some (.int i), none, none] (by decide +kernel) (Nat.le_of_ble_eq_true rfl) rfl ?_
  refine px_aload_n dX5_film_0 rfl ?_
  refine px_iload_n dX5_film_1 rfl ?_
  refine px_vi (M2 := mX5_isApprentice) (c_isA_y ha (by have := hOK.1.1; omega)) mw_X5_isApprentice wm_X5_isApprentice we_X5_isApprentice (Or.inl ml_X5_78) dX5_film_2 (RO_obj) rfl (by decide) rfl rfl (Nat.le_of_ble_eq_true rfl) ⟨rfl, rfl⟩ ?_
  refine px_if_eqB 33 dX5_film_5 (by decide) (fun c5 => ?_) (fun c5 => ?_)
  · cases c5
  · refine px_iload_n dX5_film_8 rfl ?_
    refine px_iconst (v := nI 1) dX5_film_9 (by decide) ?_
    refine px_bipush (v := nI 24) dX5_film_10 (by decide) ?_
    refine px_si (c_X5_isWithin (nI k) (nI 1) (nI 24)) mw_X5_isWithin wt_X5_isWithin (Or.inl ml_X5_53) dX5_film_12 (by decide) rfl rfl (Nat.le_of_ble_eq_true rfl) ⟨rfl, rfl⟩ ?_
    refine px_if_eqB 33 dX5_film_15 (by decide) (fun c15 => ?_) (fun c15 => ?_)
    · rw [in_t (by omega) (by omega) (by decide)] at c15
      cases c15
    · refine px_iload_n dX5_film_18 rfl ?_
      refine px_si (c_sh_y hs) mw_X5_isSheet wt_X5_isSheet (Or.inl ml_X5_220) dX5_film_19 (by decide) rfl rfl (Nat.le_of_ble_eq_true rfl) ⟨rfl, rfl⟩ ?_
      refine px_if_eqB 33 dX5_film_22 (by decide) (fun c22 => ?_) (fun c22 => ?_)
      · cases c22
      · refine px_iload dX5_film_25 rfl ?_
        refine px_si (c_la_y hl) mw_X5_isLane wt_X5_isLane (Or.inl ml_X5_223) dX5_film_27 (by decide) rfl rfl (Nat.le_of_ble_eq_true rfl) ⟨rfl, rfl⟩ ?_
        refine px_if_neB 35 dX5_film_30 (by decide) (fun c30 => ?_) (fun c30 => ?_)
        · refine px_aload_n dX5_film_35 rfl ?_
          refine px_get xk_X5 8 dX5_film_36 (Or.inl fl_X5_48) RO_obj (by decide) rfl ?_
          refine px_iload_n dX5_film_39 rfl ?_
          refine px_rsh dX5_film_40 hs ?_
          refine px_ast_6 dX5_film_41 (by decide) rfl ?_
          refine px_aload dX5_film_43 rfl ?_
          refine px_iload dX5_film_45 rfl ?_
          refine px_iload dX5_film_47 rfl ?_
          refine px_iload_n dX5_film_49 rfl ?_
          refine px_vi (M2 := mX2_refusal) (osr hs rfl (c_X2_refusal (nI l) i (nI k))) mw_X2_refusal wm_X2_refusal we_X2_refusal (Or.inr ⟨_, ml_X5_226⟩) dX5_film_50 ((ro_so hs)) rfl (by decide) rfl rfl (Nat.le_of_ble_eq_true rfl) ⟨rfl, rfl⟩ ?_
          refine px_ist_7 dX5_film_53 (by decide) rfl ?_
          refine px_iload dX5_film_55 rfl ?_
          refine px_if_ge 63 dX5_film_57 (by decide) (fun c57 => ?_) (fun c57 => ?_)
          · exact absurd hr (Int32.not_lt.mpr c57)
          · refine px_iload dX5_film_60 rfl ?_
            exact px_iret dX5_film_62 rfl rfl rfl ⟨rfl, rfl⟩
        · cases c30
set_option maxHeartbeats 4000000 in
set_option maxRecDepth 100000 in
theorem c_X5_film {E : xE} {h : xHp} {z : Nat} {O : xO} (hOK : tOK (O.1.1 0)) (hT : tOK (O.1.1 2)) (hN : (O.1.1 0).2 4 ≤ 9999) (a k s l f : Nat) (ha : a < (O.1.1 0).2 0) (hs : s < 4) (hl : l < 4) (h1 : 1 ≤ k) (hk : k ≤ 24) (hL : (O.2.1 s).2.1 = nI l) (hz : (O.2.1 s).2.2 ≤ 24) (hf : f + k ≤ (O.2.1 s).2.2) : PMG E mX5_film [.ref z, .int (nI a), .int (nI k), .int (nI s), .int (nI l), .int (nI f)] (RO E h z O) (nI k) h z (oS O s (stell (O.1.1 0) a (O.2.1 s) f k)) := by
  have hm6 := hOK.1.1
  refine pm_of [some (.ref z), some (.int (nI a)), some (.int (nI k)), some (.int (nI s)), some (.int (nI l)), some (.int (nI f)), none, none] (by decide +kernel) (Nat.le_of_ble_eq_true rfl) rfl ?_
  refine px_aload_n dX5_film_0 rfl ?_
  refine px_iload_n dX5_film_1 rfl ?_
  refine px_vi (M2 := mX5_isApprentice) (c_isA_y ha (by have := hOK.1.1; omega)) mw_X5_isApprentice wm_X5_isApprentice we_X5_isApprentice (Or.inl ml_X5_78) dX5_film_2 (RO_obj) rfl (by decide) rfl rfl (Nat.le_of_ble_eq_true rfl) ⟨rfl, rfl⟩ ?_
  refine px_if_eqB 33 dX5_film_5 (by decide) (fun c5 => ?_) (fun c5 => ?_)
  · cases c5
  · refine px_iload_n dX5_film_8 rfl ?_
    refine px_iconst (v := nI 1) dX5_film_9 (by decide) ?_
    refine px_bipush (v := nI 24) dX5_film_10 (by decide) ?_
    refine px_si (c_X5_isWithin (nI k) (nI 1) (nI 24)) mw_X5_isWithin wt_X5_isWithin (Or.inl ml_X5_53) dX5_film_12 (by decide) rfl rfl (Nat.le_of_ble_eq_true rfl) ⟨rfl, rfl⟩ ?_
    refine px_if_eqB 33 dX5_film_15 (by decide) (fun c15 => ?_) (fun c15 => ?_)
    · rw [in_t (by omega) (by omega) (by decide)] at c15
      cases c15
    · refine px_iload_n dX5_film_18 rfl ?_
      refine px_si (c_sh_y hs) mw_X5_isSheet wt_X5_isSheet (Or.inl ml_X5_220) dX5_film_19 (by decide) rfl rfl (Nat.le_of_ble_eq_true rfl) ⟨rfl, rfl⟩ ?_
      refine px_if_eqB 33 dX5_film_22 (by decide) (fun c22 => ?_) (fun c22 => ?_)
      · cases c22
      · refine px_iload dX5_film_25 rfl ?_
        refine px_si (c_la_y hl) mw_X5_isLane wt_X5_isLane (Or.inl ml_X5_223) dX5_film_27 (by decide) rfl rfl (Nat.le_of_ble_eq_true rfl) ⟨rfl, rfl⟩ ?_
        refine px_if_neB 35 dX5_film_30 (by decide) (fun c30 => ?_) (fun c30 => ?_)
        · refine px_aload_n dX5_film_35 rfl ?_
          refine px_get xk_X5 8 dX5_film_36 (Or.inl fl_X5_48) RO_obj (by decide) rfl ?_
          refine px_iload_n dX5_film_39 rfl ?_
          refine px_rsh dX5_film_40 hs ?_
          refine px_ast_6 dX5_film_41 (by decide) rfl ?_
          refine px_aload dX5_film_43 rfl ?_
          refine px_iload dX5_film_45 rfl ?_
          refine px_iload dX5_film_47 rfl ?_
          refine px_iload_n dX5_film_49 rfl ?_
          refine px_vi (M2 := mX2_refusal) (c_rf_y hs hl hL hz hf) mw_X2_refusal wm_X2_refusal we_X2_refusal (Or.inr ⟨_, ml_X5_226⟩) dX5_film_50 ((ro_so hs)) rfl (by decide) rfl rfl (Nat.le_of_ble_eq_true rfl) ⟨rfl, rfl⟩ ?_
          refine px_ist_7 dX5_film_53 (by decide) rfl ?_
          refine px_iload dX5_film_55 rfl ?_
          refine px_if_ge 63 dX5_film_57 (by decide) (fun _ => ?_) (fun z => absurd z (by decide))
          refine px_aload_n dX5_film_63 rfl ?_
          refine px_get xk_X5 5 dX5_film_64 (Or.inl fl_X5_32) RO_obj (by decide) rfl ?_
          refine px_aload_n dX5_film_67 rfl ?_
          refine px_get xk_X5 0 dX5_film_68 (Or.inl fl_X5_10) RO_obj (by decide) rfl ?_
          refine px_iload_n dX5_film_71 rfl ?_
          refine px_aload dX5_film_72 rfl ?_
          refine px_iload dX5_film_74 rfl ?_
          refine px_iload_n dX5_film_76 rfl ?_
          refine px_callV (M2 := mX0_tell) (fo_tl hs hOK (by omega) (by omega) (by omega) l hl hL hN) mw_X0_tell wm_X0_tell we_X0_tell (Or.inr ⟨_, ml_X5_237⟩) dX5_film_77 (RO_fo) rfl (by decide) rfl rfl (Nat.le_of_ble_eq_true rfl) ⟨Nat.zero_le _, Nat.zero_le _⟩ (fun v h2 hq => ?_)
          obtain ⟨rfl, T1, hT1, rfl⟩ := hq
          refine px_iload_n dX5_film_80 rfl ?_
          exact px_iret dX5_film_81 rfl rfl rfl ⟨rfl, T1, hT1, rfl⟩
        · cases c30
set_option maxHeartbeats 4000000 in
set_option maxRecDepth 100000 in
theorem c_X5_sheet_n {E : xE} {h : xHp} {z : Nat} {O : xO} (s l k : Int32) (hx : ¬ ((0 ≤ s ∧ s < nI 4) ∧ (0 ≤ l ∧ l < nI 4) ∧ k ≤ nI 24)) : PMI E mX5_sheet [.ref z, .int s, .int l, .int k] (RO E h z O) (-1) (RO E h z O) := by
  refine pm_of [some (.ref z), some (.int s), some (.int l), some (.int k)] (by decide +kernel) (Nat.le_of_ble_eq_true rfl) rfl ?_
  refine px_iload_n dX5_sheet_0 rfl ?_
  refine px_si (c_X5_isSheet s) mw_X5_isSheet wt_X5_isSheet (Or.inl ml_X5_220) dX5_sheet_1 (by decide) rfl rfl (Nat.le_of_ble_eq_true rfl) ⟨rfl, rfl⟩ ?_
  refine px_if_eqB 20 dX5_sheet_4 (by decide) (fun c4 => ?_) (fun c4 => ?_)
  · refine px_iconst (v := -1) dX5_sheet_20 (by decide) ?_
    exact px_iret dX5_sheet_21 rfl rfl rfl ⟨rfl, rfl⟩
  · refine px_iload_n dX5_sheet_7 rfl ?_
    refine px_si (c_X5_isLane l) mw_X5_isLane wt_X5_isLane (Or.inl ml_X5_223) dX5_sheet_8 (by decide) rfl rfl (Nat.le_of_ble_eq_true rfl) ⟨rfl, rfl⟩ ?_
    refine px_if_eqB 20 dX5_sheet_11 (by decide) (fun c11 => ?_) (fun c11 => ?_)
    · refine px_iconst (v := -1) dX5_sheet_20 (by decide) ?_
      exact px_iret dX5_sheet_21 rfl rfl rfl ⟨rfl, rfl⟩
    · refine px_iload_n dX5_sheet_14 rfl ?_
      refine px_bipush (v := nI 24) dX5_sheet_15 (by decide) ?_
      refine px_icmp_le 22 dX5_sheet_17 (by decide) (fun c17 => ?_) (fun c17 => ?_)
      · exact absurd ⟨of_decide_eq_true c4, of_decide_eq_true c11, c17⟩ hx
      · refine px_iconst (v := -1) dX5_sheet_20 (by decide) ?_
        exact px_iret dX5_sheet_21 rfl rfl rfl ⟨rfl, rfl⟩
set_option maxHeartbeats 4000000 in
set_option maxRecDepth 100000 in
theorem c_X5_sheet_z {E : xE} {h : xHp} {z : Nat} {O : xO} (s l : Nat) (k : Int32) (hs : s < 4) (hl : l < 4) (hk : k < 0) : PMI E mX5_sheet [.ref z, .int (nI s), .int (nI l), .int k] (RO E h z O) (-14) (RO E h z O) := by
  refine pm_of [some (.ref z), some (.int (nI s)), some (.int (nI l)), some (.int k)] (by decide +kernel) (Nat.le_of_ble_eq_true rfl) rfl ?_
  refine px_iload_n dX5_sheet_0 rfl ?_
  refine px_si (c_sh_y hs) mw_X5_isSheet wt_X5_isSheet (Or.inl ml_X5_220) dX5_sheet_1 (by decide) rfl rfl (Nat.le_of_ble_eq_true rfl) ⟨rfl, rfl⟩ ?_
  refine px_if_eqB 20 dX5_sheet_4 (by decide) (fun c4 => ?_) (fun c4 => ?_)
  · cases c4
  · refine px_iload_n dX5_sheet_7 rfl ?_
    refine px_si (c_la_y hl) mw_X5_isLane wt_X5_isLane (Or.inl ml_X5_223) dX5_sheet_8 (by decide) rfl rfl (Nat.le_of_ble_eq_true rfl) ⟨rfl, rfl⟩ ?_
    refine px_if_eqB 20 dX5_sheet_11 (by decide) (fun c11 => ?_) (fun c11 => ?_)
    · cases c11
    · refine px_iload_n dX5_sheet_14 rfl ?_
      refine px_bipush (v := nI 24) dX5_sheet_15 (by decide) ?_
      refine px_icmp_le 22 dX5_sheet_17 (by decide) (fun c17 => ?_) (fun c17 => ?_)
      · refine px_iload_n dX5_sheet_22 rfl ?_
        refine px_if_ge 29 dX5_sheet_23 (by decide) (fun c23 => ?_) (fun c23 => ?_)
        · exact absurd hk (Int32.not_lt.mpr c23)
        · refine px_bipush (v := -14) dX5_sheet_26 (by decide) ?_
          exact px_iret dX5_sheet_28 rfl rfl rfl ⟨rfl, rfl⟩
      · exact absurd (Int32.le_trans (Int32.le_of_lt hk) (by decide)) c17
set_option maxHeartbeats 4000000 in
set_option maxRecDepth 100000 in
theorem c_X5_sheet {E : xE} {h : xHp} {z : Nat} {O : xO} (s l k : Nat) (hs : s < 4) (hl : l < 4) (hk : k ≤ 24) : PMI E mX5_sheet [.ref z, .int (nI s), .int (nI l), .int (nI k)] (RO E h z O) (nI k) (RO E h z (oS O s (szero 24 (O.2.1 s).1, nI l, k))) := by
  refine pm_of [some (.ref z), some (.int (nI s)), some (.int (nI l)), some (.int (nI k))] (by decide +kernel) (Nat.le_of_ble_eq_true rfl) rfl ?_
  refine px_iload_n dX5_sheet_0 rfl ?_
  refine px_si (c_sh_y hs) mw_X5_isSheet wt_X5_isSheet (Or.inl ml_X5_220) dX5_sheet_1 (by decide) rfl rfl (Nat.le_of_ble_eq_true rfl) ⟨rfl, rfl⟩ ?_
  refine px_if_eqB 20 dX5_sheet_4 (by decide) (fun c4 => ?_) (fun c4 => ?_)
  · cases c4
  · refine px_iload_n dX5_sheet_7 rfl ?_
    refine px_si (c_la_y hl) mw_X5_isLane wt_X5_isLane (Or.inl ml_X5_223) dX5_sheet_8 (by decide) rfl rfl (Nat.le_of_ble_eq_true rfl) ⟨rfl, rfl⟩ ?_
    refine px_if_eqB 20 dX5_sheet_11 (by decide) (fun c11 => ?_) (fun c11 => ?_)
    · cases c11
    · refine px_iload_n dX5_sheet_14 rfl ?_
      refine px_bipush (v := nI 24) dX5_sheet_15 (by decide) ?_
      refine px_icmp_leN 22 dX5_sheet_17 (by decide) (by first | omega | exact hOK.lt (by decide) | exact hOK.lts (by decide)) (by first | omega | exact hOK.lt (by decide) | exact hOK.lts (by decide)) (fun c17 => ?_) (fun c17 => ?_)
      · refine px_iload_n dX5_sheet_22 rfl ?_
        refine px_if_geN 29 dX5_sheet_23 (by decide) (by first | omega | exact hOK.lt (by decide) | exact hOK.lts (by decide)) ?_
        refine px_aload_n dX5_sheet_29 rfl ?_
        refine px_get xk_X5 8 dX5_sheet_30 (Or.inl fl_X5_48) RO_obj (by decide) rfl ?_
        refine px_iload_n dX5_sheet_33 rfl ?_
        refine px_rsh dX5_sheet_34 hs ?_
        refine px_iload_n dX5_sheet_35 rfl ?_
        refine px_iload_n dX5_sheet_36 rfl ?_
        refine px_vv (M2 := mX2_begin) (osv hs (c_X2_begin (nI l) k)) mw_X2_begin wm_X2_begin we_X2_begin (Or.inr ⟨_, ml_X5_241⟩) dX5_sheet_37 ((ro_so hs)) rfl (by decide) rfl rfl (Nat.le_of_ble_eq_true rfl) ⟨rfl, rfl⟩ ?_
        refine px_iload_n dX5_sheet_40 rfl ?_
        exact px_iret dX5_sheet_41 rfl rfl rfl ⟨rfl, rfl⟩
      · omega
set_option maxHeartbeats 4000000 in
set_option maxRecDepth 100000 in
theorem c_X5_drop_n {E : xE} {h : xHp} {z : Nat} {O : xO} (s : Int32) (hx : ¬ ((0 ≤ s ∧ s < nI 4))) : PMI E mX5_drop [.ref z, .int s] (RO E h z O) (-1) (RO E h z O) := by
  refine pm_of [some (.ref z), some (.int s), none, none] (by decide +kernel) (Nat.le_of_ble_eq_true rfl) rfl ?_
  refine px_iload_n dX5_drop_0 rfl ?_
  refine px_si (c_X5_isSheet s) mw_X5_isSheet wt_X5_isSheet (Or.inl ml_X5_220) dX5_drop_1 (by decide) rfl rfl (Nat.le_of_ble_eq_true rfl) ⟨rfl, rfl⟩ ?_
  refine px_if_neB 9 dX5_drop_4 (by decide) (fun c4 => ?_) (fun c4 => ?_)
  · exact absurd (of_decide_eq_true c4) hx
  · refine px_iconst (v := -1) dX5_drop_7 (by decide) ?_
    exact px_iret dX5_drop_8 rfl rfl rfl ⟨rfl, rfl⟩
set_option maxHeartbeats 4000000 in
set_option maxRecDepth 100000 in
theorem c_X5_drop_o {E : xE} {h : xHp} {z : Nat} {O : xO} (s : Nat) (hs : s < 4) (hn : (O.2.1 s).2.1 = -1) : PMI E mX5_drop [.ref z, .int (nI s)] (RO E h z O) (-11) (RO E h z O) := by
  refine pm_of [some (.ref z), some (.int (nI s)), none, none] (by decide +kernel) (Nat.le_of_ble_eq_true rfl) rfl ?_
  refine px_iload_n dX5_drop_0 rfl ?_
  refine px_si (c_sh_y hs) mw_X5_isSheet wt_X5_isSheet (Or.inl ml_X5_220) dX5_drop_1 (by decide) rfl rfl (Nat.le_of_ble_eq_true rfl) ⟨rfl, rfl⟩ ?_
  refine px_if_neB 9 dX5_drop_4 (by decide) (fun c4 => ?_) (fun c4 => ?_)
  · refine px_aload_n dX5_drop_9 rfl ?_
    refine px_get xk_X5 8 dX5_drop_10 (Or.inl fl_X5_48) RO_obj (by decide) rfl ?_
    refine px_iload_n dX5_drop_13 rfl ?_
    refine px_rsh dX5_drop_14 hs ?_
    refine px_astn_2 dX5_drop_15 (by decide) rfl ?_
    refine px_aload_n dX5_drop_16 rfl ?_
    refine px_heap (ro_sa hs).symm ?_
    refine px_sL dX5_drop_17 (Or.inr ⟨_, fl_X5_245⟩) ?_
    refine px_heap (ro_sa hs) ?_
    refine px_iconst (v := -1) dX5_drop_20 (by decide) ?_
    refine px_icmp_ne 27 dX5_drop_21 (by decide) (fun c21 => ?_) (fun c21 => ?_)
    · exact absurd hn c21
    · refine px_bipush (v := -11) dX5_drop_24 (by decide) ?_
      exact px_iret dX5_drop_26 rfl rfl rfl ⟨rfl, rfl⟩
  · cases c4
set_option maxHeartbeats 4000000 in
set_option maxRecDepth 100000 in
theorem c_X5_drop {E : xE} {h : xHp} {z : Nat} {O : xO} (s : Nat) (hs : s < 4) (hn : (O.2.1 s).2.1 ≠ -1) : PMI E mX5_drop [.ref z, .int (nI s)] (RO E h z O) (nI (O.2.1 s).2.2) (RO E h z (oS O s ((O.2.1 s).1, -1, 0))) := by
  refine pm_of [some (.ref z), some (.int (nI s)), none, none] (by decide +kernel) (Nat.le_of_ble_eq_true rfl) rfl ?_
  refine px_iload_n dX5_drop_0 rfl ?_
  refine px_si (c_sh_y hs) mw_X5_isSheet wt_X5_isSheet (Or.inl ml_X5_220) dX5_drop_1 (by decide) rfl rfl (Nat.le_of_ble_eq_true rfl) ⟨rfl, rfl⟩ ?_
  refine px_if_neB 9 dX5_drop_4 (by decide) (fun c4 => ?_) (fun c4 => ?_)
  · refine px_aload_n dX5_drop_9 rfl ?_
    refine px_get xk_X5 8 dX5_drop_10 (Or.inl fl_X5_48) RO_obj (by decide) rfl ?_
    refine px_iload_n dX5_drop_13 rfl ?_
    refine px_rsh dX5_drop_14 hs ?_
    refine px_astn_2 dX5_drop_15 (by decide) rfl ?_
    refine px_aload_n dX5_drop_16 rfl ?_
    refine px_heap (ro_sa hs).symm ?_
    refine px_sL dX5_drop_17 (Or.inr ⟨_, fl_X5_245⟩) ?_
    refine px_heap (ro_sa hs) ?_
    refine px_iconst (v := -1) dX5_drop_20 (by decide) ?_
    refine px_icmp_ne 27 dX5_drop_21 (by decide) (fun c21 => ?_) (fun c21 => ?_)
    · refine px_aload_n dX5_drop_27 rfl ?_
      refine px_heap (ro_sa hs).symm ?_
      refine px_sZ dX5_drop_28 (Or.inr ⟨_, fl_X5_248⟩) ?_
      refine px_heap (ro_sa hs) ?_
      refine px_istn_3 dX5_drop_31 (by decide) rfl ?_
      refine px_aload_n dX5_drop_32 rfl ?_
      refine px_vv (M2 := mX2_end) (osv hs c_X2_end) mw_X2_end wm_X2_end we_X2_end (Or.inr ⟨_, ml_X5_249⟩) dX5_drop_33 ((ro_so hs)) rfl (by decide) rfl rfl (Nat.le_of_ble_eq_true rfl) ⟨rfl, rfl⟩ ?_
      refine px_iload_n dX5_drop_36 rfl ?_
      exact px_iret dX5_drop_37 rfl rfl rfl ⟨rfl, rfl⟩
    · exact absurd c21 hn
  · cases c4
set_option maxHeartbeats 4000000 in
set_option maxRecDepth 100000 in
theorem c_X5_item_n {E : xE} {h : xHp} {z : Nat} {O : xO} (s l i : Int32) (v : Int64) (hx : ¬ ((0 ≤ s ∧ s < nI 4) ∧ (0 ≤ l ∧ l < nI 4))) : PMI E mX5_item [.ref z, .int s, .int l, .int i, .long v] (RO E h z O) (-1) (RO E h z O) := by
  refine pm_of [some (.ref z), some (.int s), some (.int l), some (.int i), some (.long v), none, none, none] (by decide +kernel) (Nat.le_of_ble_eq_true rfl) rfl ?_
  refine px_iload_n dX5_item_0 rfl ?_
  refine px_si (c_X5_isSheet s) mw_X5_isSheet wt_X5_isSheet (Or.inl ml_X5_220) dX5_item_1 (by decide) rfl rfl (Nat.le_of_ble_eq_true rfl) ⟨rfl, rfl⟩ ?_
  refine px_if_eqB 14 dX5_item_4 (by decide) (fun c4 => ?_) (fun c4 => ?_)
  · refine px_iconst (v := -1) dX5_item_14 (by decide) ?_
    exact px_iret dX5_item_15 rfl rfl rfl ⟨rfl, rfl⟩
  · refine px_iload_n dX5_item_7 rfl ?_
    refine px_si (c_X5_isLane l) mw_X5_isLane wt_X5_isLane (Or.inl ml_X5_223) dX5_item_8 (by decide) rfl rfl (Nat.le_of_ble_eq_true rfl) ⟨rfl, rfl⟩ ?_
    refine px_if_neB 16 dX5_item_11 (by decide) (fun c11 => ?_) (fun c11 => ?_)
    · exact absurd ⟨of_decide_eq_true c4, of_decide_eq_true c11⟩ hx
    · refine px_iconst (v := -1) dX5_item_14 (by decide) ?_
      exact px_iret dX5_item_15 rfl rfl rfl ⟨rfl, rfl⟩
set_option maxHeartbeats 4000000 in
set_option maxRecDepth 100000 in
theorem c_X5_item_r {E : xE} {h : xHp} {z : Nat} {O : xO} (s l : Nat) (i : Int32) (v : Int64) (hs : s < 4) (hl : l < 4) (hr : sref (O.2.1 s) (nI l) i (nI 1) < 0) : PMI E mX5_item [.ref z, .int (nI s), .int (nI l), .int i, .long v] (RO E h z O) (sref (O.2.1 s) (nI l) i (nI 1)) (RO E h z O) := by
  refine pm_of [some (.ref z), some (.int (nI s)), some (.int (nI l)), some (.int i), some (.long v), none, none, none] (by decide +kernel) (Nat.le_of_ble_eq_true rfl) rfl ?_
  refine px_iload_n dX5_item_0 rfl ?_
  refine px_si (c_sh_y hs) mw_X5_isSheet wt_X5_isSheet (Or.inl ml_X5_220) dX5_item_1 (by decide) rfl rfl (Nat.le_of_ble_eq_true rfl) ⟨rfl, rfl⟩ ?_
  refine px_if_eqB 14 dX5_item_4 (by decide) (fun c4 => ?_) (fun c4 => ?_)
  · cases c4
  · refine px_iload_n dX5_item_7 rfl ?_
    refine px_si (c_la_y hl) mw_X5_isLane wt_X5_isLane (Or.inl ml_X5_223) dX5_item_8 (by decide) rfl rfl (Nat.le_of_ble_eq_true rfl) ⟨rfl, rfl⟩ ?_
    refine px_if_neB 16 dX5_item_11 (by decide) (fun c11 => ?_) (fun c11 => ?_)
    · refine px_aload_n dX5_item_16 rfl ?_
      refine px_get xk_X5 8 dX5_item_17 (Or.inl fl_X5_48) RO_obj (by decide) rfl ?_
      refine px_iload_n dX5_item_20 rfl ?_
      refine px_rsh dX5_item_21 hs ?_
      refine px_ast_6 dX5_item_22 (by decide) rfl ?_
      refine px_aload dX5_item_24 rfl ?_
      refine px_iload_n dX5_item_26 rfl ?_
      refine px_iload_n dX5_item_27 rfl ?_
      refine px_iconst (v := nI 1) dX5_item_28 (by decide) ?_
      refine px_vi (M2 := mX2_refusal) (osr hs rfl (c_X2_refusal (nI l) i (nI 1))) mw_X2_refusal wm_X2_refusal we_X2_refusal (Or.inr ⟨_, ml_X5_226⟩) dX5_item_29 ((ro_so hs)) rfl (by decide) rfl rfl (Nat.le_of_ble_eq_true rfl) ⟨rfl, rfl⟩ ?_
      refine px_ist_7 dX5_item_32 (by decide) rfl ?_
      refine px_iload dX5_item_34 rfl ?_
      refine px_if_ge 42 dX5_item_36 (by decide) (fun c36 => ?_) (fun c36 => ?_)
      · exact absurd hr (Int32.not_lt.mpr c36)
      · refine px_iload dX5_item_39 rfl ?_
        exact px_iret dX5_item_41 rfl rfl rfl ⟨rfl, rfl⟩
    · cases c11
set_option maxHeartbeats 4000000 in
set_option maxRecDepth 100000 in
theorem c_X5_item {E : xE} {h : xHp} {z : Nat} {O : xO} (s l f : Nat) (v : Int64) (hs : s < 4) (hl : l < 4) (hL : (O.2.1 s).2.1 = nI l) (hz : (O.2.1 s).2.2 ≤ 24) (hf : f + 1 ≤ (O.2.1 s).2.2) : PMI E mX5_item [.ref z, .int (nI s), .int (nI l), .int (nI f), .long v] (RO E h z O) (nI 1) (RO E h z (oS O s (sput (O.2.1 s) f v))) := by
  refine pm_of [some (.ref z), some (.int (nI s)), some (.int (nI l)), some (.int (nI f)), some (.long v), none, none, none] (by decide +kernel) (Nat.le_of_ble_eq_true rfl) rfl ?_
  refine px_iload_n dX5_item_0 rfl ?_
  refine px_si (c_sh_y hs) mw_X5_isSheet wt_X5_isSheet (Or.inl ml_X5_220) dX5_item_1 (by decide) rfl rfl (Nat.le_of_ble_eq_true rfl) ⟨rfl, rfl⟩ ?_
  refine px_if_eqB 14 dX5_item_4 (by decide) (fun c4 => ?_) (fun c4 => ?_)
  · cases c4
  · refine px_iload_n dX5_item_7 rfl ?_
    refine px_si (c_la_y hl) mw_X5_isLane wt_X5_isLane (Or.inl ml_X5_223) dX5_item_8 (by decide) rfl rfl (Nat.le_of_ble_eq_true rfl) ⟨rfl, rfl⟩ ?_
    refine px_if_neB 16 dX5_item_11 (by decide) (fun c11 => ?_) (fun c11 => ?_)
    · refine px_aload_n dX5_item_16 rfl ?_
      refine px_get xk_X5 8 dX5_item_17 (Or.inl fl_X5_48) RO_obj (by decide) rfl ?_
      refine px_iload_n dX5_item_20 rfl ?_
      refine px_rsh dX5_item_21 hs ?_
      refine px_ast_6 dX5_item_22 (by decide) rfl ?_
      refine px_aload dX5_item_24 rfl ?_
      refine px_iload_n dX5_item_26 rfl ?_
      refine px_iload_n dX5_item_27 rfl ?_
      refine px_iconst (v := nI 1) dX5_item_28 (by decide) ?_
      refine px_vi (M2 := mX2_refusal) (c_rf_y hs hl hL hz hf) mw_X2_refusal wm_X2_refusal we_X2_refusal (Or.inr ⟨_, ml_X5_226⟩) dX5_item_29 ((ro_so hs)) rfl (by decide) rfl rfl (Nat.le_of_ble_eq_true rfl) ⟨rfl, rfl⟩ ?_
      refine px_ist_7 dX5_item_32 (by decide) rfl ?_
      refine px_iload dX5_item_34 rfl ?_
      refine px_if_ge 42 dX5_item_36 (by decide) (fun _ => ?_) (fun z => absurd z (by decide))
      refine px_aload dX5_item_42 rfl ?_
      refine px_iload_n dX5_item_44 rfl ?_
      refine px_lload dX5_item_45 rfl ?_
      refine px_vv (M2 := mX2_put) (osv hs (c_X2_put l f v hl hL (by omega))) mw_X2_put wm_X2_put we_X2_put (Or.inr ⟨_, ml_X5_252⟩) dX5_item_47 ((ro_so hs)) rfl (by decide) rfl rfl (Nat.le_of_ble_eq_true rfl) ⟨rfl, rfl⟩ ?_
      refine px_iconst (v := nI 1) dX5_item_50 (by decide) ?_
      exact px_iret dX5_item_51 rfl rfl rfl ⟨rfl, rfl⟩
    · cases c11
set_option maxHeartbeats 4000000 in
set_option maxRecDepth 100000 in
theorem c_X5_copy_n {E : xE} {h : xHp} {z : Nat} {O : xO} (s i t j k : Int32) (hx : ¬ ((0 ≤ s ∧ s < nI 4) ∧ (0 ≤ t ∧ t < nI 4))) : PMI E mX5_copy [.ref z, .int s, .int i, .int t, .int j, .int k] (RO E h z O) (-1) (RO E h z O) := by
  refine pm_of [some (.ref z), some (.int s), some (.int i), some (.int t), some (.int j), some (.int k), none, none] (by decide +kernel) (Nat.le_of_ble_eq_true rfl) rfl ?_
  refine px_iload_n dX5_copy_0 rfl ?_
  refine px_si (c_X5_isSheet s) mw_X5_isSheet wt_X5_isSheet (Or.inl ml_X5_220) dX5_copy_1 (by decide) rfl rfl (Nat.le_of_ble_eq_true rfl) ⟨rfl, rfl⟩ ?_
  refine px_if_eqB 14 dX5_copy_4 (by decide) (fun c4 => ?_) (fun c4 => ?_)
  · refine px_iconst (v := -1) dX5_copy_14 (by decide) ?_
    exact px_iret dX5_copy_15 rfl rfl rfl ⟨rfl, rfl⟩
  · refine px_iload_n dX5_copy_7 rfl ?_
    refine px_si (c_X5_isSheet t) mw_X5_isSheet wt_X5_isSheet (Or.inl ml_X5_220) dX5_copy_8 (by decide) rfl rfl (Nat.le_of_ble_eq_true rfl) ⟨rfl, rfl⟩ ?_
    refine px_if_neB 16 dX5_copy_11 (by decide) (fun c11 => ?_) (fun c11 => ?_)
    · exact absurd ⟨of_decide_eq_true c4, of_decide_eq_true c11⟩ hx
    · refine px_iconst (v := -1) dX5_copy_14 (by decide) ?_
      exact px_iret dX5_copy_15 rfl rfl rfl ⟨rfl, rfl⟩
set_option maxHeartbeats 4000000 in
set_option maxRecDepth 100000 in
theorem c_X5_copy_o {E : xE} {h : xHp} {z : Nat} {O : xO} (s t : Nat) (i j k : Int32) (hs : s < 4) (ht : t < 4) (hn : ¬ ((O.2.1 s).2.1 ≠ -1 ∧ (O.2.1 t).2.1 ≠ -1)) : PMI E mX5_copy [.ref z, .int (nI s), .int i, .int (nI t), .int j, .int k] (RO E h z O) (-11) (RO E h z O) := by
  refine pm_of [some (.ref z), some (.int (nI s)), some (.int i), some (.int (nI t)), some (.int j), some (.int k), none, none] (by decide +kernel) (Nat.le_of_ble_eq_true rfl) rfl ?_
  refine px_iload_n dX5_copy_0 rfl ?_
  refine px_si (c_sh_y hs) mw_X5_isSheet wt_X5_isSheet (Or.inl ml_X5_220) dX5_copy_1 (by decide) rfl rfl (Nat.le_of_ble_eq_true rfl) ⟨rfl, rfl⟩ ?_
  refine px_if_eqB 14 dX5_copy_4 (by decide) (fun c4 => ?_) (fun c4 => ?_)
  · cases c4
  · refine px_iload_n dX5_copy_7 rfl ?_
    refine px_si (c_sh_y ht) mw_X5_isSheet wt_X5_isSheet (Or.inl ml_X5_220) dX5_copy_8 (by decide) rfl rfl (Nat.le_of_ble_eq_true rfl) ⟨rfl, rfl⟩ ?_
    refine px_if_neB 16 dX5_copy_11 (by decide) (fun c11 => ?_) (fun c11 => ?_)
    · refine px_aload_n dX5_copy_16 rfl ?_
      refine px_get xk_X5 8 dX5_copy_17 (Or.inl fl_X5_48) RO_obj (by decide) rfl ?_
      refine px_iload_n dX5_copy_20 rfl ?_
      refine px_rsh dX5_copy_21 hs ?_
      refine px_ast_6 dX5_copy_22 (by decide) rfl ?_
      refine px_aload_n dX5_copy_24 rfl ?_
      refine px_get xk_X5 8 dX5_copy_25 (Or.inl fl_X5_48) RO_obj (by decide) rfl ?_
      refine px_iload_n dX5_copy_28 rfl ?_
      refine px_rsh dX5_copy_29 ht ?_
      refine px_ast_7 dX5_copy_30 (by decide) rfl ?_
      refine px_aload dX5_copy_32 rfl ?_
      refine px_heap (ro_sa hs).symm ?_
      refine px_sL dX5_copy_34 (Or.inr ⟨_, fl_X5_245⟩) ?_
      refine px_heap (ro_sa hs) ?_
      refine px_iconst (v := -1) dX5_copy_37 (by decide) ?_
      refine px_icmp_eq 50 dX5_copy_38 (by decide) (fun c38 => ?_) (fun c38 => ?_)
      · refine px_bipush (v := -11) dX5_copy_50 (by decide) ?_
        exact px_iret dX5_copy_52 rfl rfl rfl ⟨rfl, rfl⟩
      · refine px_aload dX5_copy_41 rfl ?_
        refine px_heap (ro_sa ht).symm ?_
        refine px_sL dX5_copy_43 (Or.inr ⟨_, fl_X5_245⟩) ?_
        refine px_heap (ro_sa ht) ?_
        refine px_iconst (v := -1) dX5_copy_46 (by decide) ?_
        refine px_icmp_ne 53 dX5_copy_47 (by decide) (fun c47 => ?_) (fun c47 => ?_)
        · exact absurd ⟨c38, c47⟩ hn
        · refine px_bipush (v := -11) dX5_copy_50 (by decide) ?_
          exact px_iret dX5_copy_52 rfl rfl rfl ⟨rfl, rfl⟩
    · cases c11
set_option maxHeartbeats 4000000 in
set_option maxRecDepth 100000 in
theorem c_X5_copy_c {E : xE} {h : xHp} {z : Nat} {O : xO} (s t : Nat) (i j k : Int32) (hs : s < 4) (ht : t < 4) (hn : (O.2.1 s).2.1 ≠ -1 ∧ (O.2.1 t).2.1 ≠ -1) (hc : (O.2.1 s).2.1 ≠ (O.2.1 t).2.1) : PMI E mX5_copy [.ref z, .int (nI s), .int i, .int (nI t), .int j, .int k] (RO E h z O) (-12) (RO E h z O) := by
  refine pm_of [some (.ref z), some (.int (nI s)), some (.int i), some (.int (nI t)), some (.int j), some (.int k), none, none] (by decide +kernel) (Nat.le_of_ble_eq_true rfl) rfl ?_
  refine px_iload_n dX5_copy_0 rfl ?_
  refine px_si (c_sh_y hs) mw_X5_isSheet wt_X5_isSheet (Or.inl ml_X5_220) dX5_copy_1 (by decide) rfl rfl (Nat.le_of_ble_eq_true rfl) ⟨rfl, rfl⟩ ?_
  refine px_if_eqB 14 dX5_copy_4 (by decide) (fun c4 => ?_) (fun c4 => ?_)
  · cases c4
  · refine px_iload_n dX5_copy_7 rfl ?_
    refine px_si (c_sh_y ht) mw_X5_isSheet wt_X5_isSheet (Or.inl ml_X5_220) dX5_copy_8 (by decide) rfl rfl (Nat.le_of_ble_eq_true rfl) ⟨rfl, rfl⟩ ?_
    refine px_if_neB 16 dX5_copy_11 (by decide) (fun c11 => ?_) (fun c11 => ?_)
    · refine px_aload_n dX5_copy_16 rfl ?_
      refine px_get xk_X5 8 dX5_copy_17 (Or.inl fl_X5_48) RO_obj (by decide) rfl ?_
      refine px_iload_n dX5_copy_20 rfl ?_
      refine px_rsh dX5_copy_21 hs ?_
      refine px_ast_6 dX5_copy_22 (by decide) rfl ?_
      refine px_aload_n dX5_copy_24 rfl ?_
      refine px_get xk_X5 8 dX5_copy_25 (Or.inl fl_X5_48) RO_obj (by decide) rfl ?_
      refine px_iload_n dX5_copy_28 rfl ?_
      refine px_rsh dX5_copy_29 ht ?_
      refine px_ast_7 dX5_copy_30 (by decide) rfl ?_
      refine px_aload dX5_copy_32 rfl ?_
      refine px_heap (ro_sa hs).symm ?_
      refine px_sL dX5_copy_34 (Or.inr ⟨_, fl_X5_245⟩) ?_
      refine px_heap (ro_sa hs) ?_
      refine px_iconst (v := -1) dX5_copy_37 (by decide) ?_
      refine px_icmp_eq 50 dX5_copy_38 (by decide) (fun c38 => ?_) (fun c38 => ?_)
      · exact absurd c38 hn.1
      · refine px_aload dX5_copy_41 rfl ?_
        refine px_heap (ro_sa ht).symm ?_
        refine px_sL dX5_copy_43 (Or.inr ⟨_, fl_X5_245⟩) ?_
        refine px_heap (ro_sa ht) ?_
        refine px_iconst (v := -1) dX5_copy_46 (by decide) ?_
        refine px_icmp_ne 53 dX5_copy_47 (by decide) (fun c47 => ?_) (fun c47 => ?_)
        · refine px_aload dX5_copy_53 rfl ?_
          refine px_heap (ro_sa hs).symm ?_
          refine px_sL dX5_copy_55 (Or.inr ⟨_, fl_X5_245⟩) ?_
          refine px_heap (ro_sa hs) ?_
          refine px_aload dX5_copy_58 rfl ?_
          refine px_heap (ro_sa ht).symm ?_
          refine px_sL dX5_copy_60 (Or.inr ⟨_, fl_X5_245⟩) ?_
          refine px_heap (ro_sa ht) ?_
          refine px_icmp_eq 69 dX5_copy_63 (by decide) (fun c63 => ?_) (fun c63 => ?_)
          · exact absurd c63 hc
          · refine px_bipush (v := -12) dX5_copy_66 (by decide) ?_
            exact px_iret dX5_copy_68 rfl rfl rfl ⟨rfl, rfl⟩
        · exact absurd c47 hn.2
    · cases c11
set_option maxHeartbeats 4000000 in
set_option maxRecDepth 100000 in
theorem c_X5_copy_i {E : xE} {h : xHp} {z : Nat} {O : xO} (s t : Nat) (i j k : Int32) (hs : s < 4) (ht : t < 4) (hn : (O.2.1 s).2.1 ≠ -1 ∧ (O.2.1 t).2.1 ≠ -1) (hc : (O.2.1 s).2.1 = (O.2.1 t).2.1) (hh : ¬ (shold (O.2.1 s) i k = true ∧ shold (O.2.1 t) j k = true)) : PMI E mX5_copy [.ref z, .int (nI s), .int i, .int (nI t), .int j, .int k] (RO E h z O) (-13) (RO E h z O) := by
  refine pm_of [some (.ref z), some (.int (nI s)), some (.int i), some (.int (nI t)), some (.int j), some (.int k), none, none] (by decide +kernel) (Nat.le_of_ble_eq_true rfl) rfl ?_
  refine px_iload_n dX5_copy_0 rfl ?_
  refine px_si (c_sh_y hs) mw_X5_isSheet wt_X5_isSheet (Or.inl ml_X5_220) dX5_copy_1 (by decide) rfl rfl (Nat.le_of_ble_eq_true rfl) ⟨rfl, rfl⟩ ?_
  refine px_if_eqB 14 dX5_copy_4 (by decide) (fun c4 => ?_) (fun c4 => ?_)
  · cases c4
  · refine px_iload_n dX5_copy_7 rfl ?_
    refine px_si (c_sh_y ht) mw_X5_isSheet wt_X5_isSheet (Or.inl ml_X5_220) dX5_copy_8 (by decide) rfl rfl (Nat.le_of_ble_eq_true rfl) ⟨rfl, rfl⟩ ?_
    refine px_if_neB 16 dX5_copy_11 (by decide) (fun c11 => ?_) (fun c11 => ?_)
    · refine px_aload_n dX5_copy_16 rfl ?_
      refine px_get xk_X5 8 dX5_copy_17 (Or.inl fl_X5_48) RO_obj (by decide) rfl ?_
      refine px_iload_n dX5_copy_20 rfl ?_
      refine px_rsh dX5_copy_21 hs ?_
      refine px_ast_6 dX5_copy_22 (by decide) rfl ?_
      refine px_aload_n dX5_copy_24 rfl ?_
      refine px_get xk_X5 8 dX5_copy_25 (Or.inl fl_X5_48) RO_obj (by decide) rfl ?_
      refine px_iload_n dX5_copy_28 rfl ?_
      refine px_rsh dX5_copy_29 ht ?_
      refine px_ast_7 dX5_copy_30 (by decide) rfl ?_
      refine px_aload dX5_copy_32 rfl ?_
      refine px_heap (ro_sa hs).symm ?_
      refine px_sL dX5_copy_34 (Or.inr ⟨_, fl_X5_245⟩) ?_
      refine px_heap (ro_sa hs) ?_
      refine px_iconst (v := -1) dX5_copy_37 (by decide) ?_
      refine px_icmp_eq 50 dX5_copy_38 (by decide) (fun c38 => ?_) (fun c38 => ?_)
      · exact absurd c38 hn.1
      · refine px_aload dX5_copy_41 rfl ?_
        refine px_heap (ro_sa ht).symm ?_
        refine px_sL dX5_copy_43 (Or.inr ⟨_, fl_X5_245⟩) ?_
        refine px_heap (ro_sa ht) ?_
        refine px_iconst (v := -1) dX5_copy_46 (by decide) ?_
        refine px_icmp_ne 53 dX5_copy_47 (by decide) (fun c47 => ?_) (fun c47 => ?_)
        · refine px_aload dX5_copy_53 rfl ?_
          refine px_heap (ro_sa hs).symm ?_
          refine px_sL dX5_copy_55 (Or.inr ⟨_, fl_X5_245⟩) ?_
          refine px_heap (ro_sa hs) ?_
          refine px_aload dX5_copy_58 rfl ?_
          refine px_heap (ro_sa ht).symm ?_
          refine px_sL dX5_copy_60 (Or.inr ⟨_, fl_X5_245⟩) ?_
          refine px_heap (ro_sa ht) ?_
          refine px_icmp_eq 69 dX5_copy_63 (by decide) (fun c63 => ?_) (fun c63 => ?_)
          · refine px_aload dX5_copy_69 rfl ?_
            refine px_iload_n dX5_copy_71 rfl ?_
            refine px_iload dX5_copy_72 rfl ?_
            refine px_vi (M2 := mX2_holds) (osr hs rfl (c_X2_holds i k)) mw_X2_holds wm_X2_holds we_X2_holds (Or.inr ⟨_, ml_X5_256⟩) dX5_copy_74 ((ro_so hs)) rfl (by decide) rfl rfl (Nat.le_of_ble_eq_true rfl) ⟨rfl, rfl⟩ ?_
            refine px_if_eqB 92 dX5_copy_77 (by decide) (fun c77 => ?_) (fun c77 => ?_)
            · refine px_bipush (v := -13) dX5_copy_92 (by decide) ?_
              exact px_iret dX5_copy_94 rfl rfl rfl ⟨rfl, rfl⟩
            · refine px_aload dX5_copy_80 rfl ?_
              refine px_iload dX5_copy_82 rfl ?_
              refine px_iload dX5_copy_84 rfl ?_
              refine px_vi (M2 := mX2_holds) (osr ht rfl (c_X2_holds j k)) mw_X2_holds wm_X2_holds we_X2_holds (Or.inr ⟨_, ml_X5_256⟩) dX5_copy_86 ((ro_so ht)) rfl (by decide) rfl rfl (Nat.le_of_ble_eq_true rfl) ⟨rfl, rfl⟩ ?_
              refine px_if_neB 95 dX5_copy_89 (by decide) (fun c89 => ?_) (fun c89 => ?_)
              · exact absurd ⟨c77, c89⟩ hh
              · refine px_bipush (v := -13) dX5_copy_92 (by decide) ?_
                exact px_iret dX5_copy_94 rfl rfl rfl ⟨rfl, rfl⟩
          · exact absurd hc c63
        · exact absurd c47 hn.2
    · cases c11
theorem ro_si {E : xE} {h : xHp} {z : Nat} {O : xO} {s : Nat} (hs : s < 4) : RO E h z O (z + 149 + 2 * s + 1) = some (.inl (E.1.2 1, 24, .inr (.inl (O.2.1 s).1))) := by
  have := SH_arr (E := E) (h := RO E h z O) (b := z + 149 + 2 * s) (S := O.2.1 s)
  rwa [ro_sa hs] at this
theorem ro_sw {E : xE} {h : xHp} {z : Nat} {O : xO} {s : Nat} {f : Nat → Int64} (hs : s < 4) : va_up (RO E h z O) (z + 149 + 2 * s + 1) (some (.inl (E.1.2 1, 24, .inr (.inl f)))) = RO E h z (oS O s (f, (O.2.1 s).2)) := by
  have := sh_up1 (E := E) (h := RO E h z O) (b := z + 149 + 2 * s) (S := O.2.1 s) (f := f)
  rwa [ro_sa hs, ro_s hs] at this
set_option maxHeartbeats 4000000 in
set_option maxRecDepth 100000 in
theorem c_X5_copy {E : xE} {h : xHp} {z : Nat} {O : xO} (s f t g k : Nat) (hs : s < 4) (ht : t < 4) (hn : (O.2.1 s).2.1 ≠ -1 ∧ (O.2.1 t).2.1 ≠ -1) (hc : (O.2.1 s).2.1 = (O.2.1 t).2.1) (hz1 : (O.2.1 s).2.2 ≤ 24) (hz2 : (O.2.1 t).2.2 ≤ 24) (hf : f + k ≤ (O.2.1 s).2.2) (hg : g + k ≤ (O.2.1 t).2.2) : PMI E mX5_copy [.ref z, .int (nI s), .int (nI f), .int (nI t), .int (nI g), .int (nI k)] (RO E h z O) (nI k) (RO E h z (oS O t (va_cpy (O.2.1 s).1 (O.2.1 t).1 f g k, (O.2.1 t).2))) := by
  refine pm_of [some (.ref z), some (.int (nI s)), some (.int (nI f)), some (.int (nI t)), some (.int (nI g)), some (.int (nI k)), none, none] (by decide +kernel) (Nat.le_of_ble_eq_true rfl) rfl ?_
  refine px_iload_n dX5_copy_0 rfl ?_
  refine px_si (c_sh_y hs) mw_X5_isSheet wt_X5_isSheet (Or.inl ml_X5_220) dX5_copy_1 (by decide) rfl rfl (Nat.le_of_ble_eq_true rfl) ⟨rfl, rfl⟩ ?_
  refine px_if_eqB 14 dX5_copy_4 (by decide) (fun c4 => ?_) (fun c4 => ?_)
  · cases c4
  · refine px_iload_n dX5_copy_7 rfl ?_
    refine px_si (c_sh_y ht) mw_X5_isSheet wt_X5_isSheet (Or.inl ml_X5_220) dX5_copy_8 (by decide) rfl rfl (Nat.le_of_ble_eq_true rfl) ⟨rfl, rfl⟩ ?_
    refine px_if_neB 16 dX5_copy_11 (by decide) (fun c11 => ?_) (fun c11 => ?_)
    · refine px_aload_n dX5_copy_16 rfl ?_
      refine px_get xk_X5 8 dX5_copy_17 (Or.inl fl_X5_48) RO_obj (by decide) rfl ?_
      refine px_iload_n dX5_copy_20 rfl ?_
      refine px_rsh dX5_copy_21 hs ?_
      refine px_ast_6 dX5_copy_22 (by decide) rfl ?_
      refine px_aload_n dX5_copy_24 rfl ?_
      refine px_get xk_X5 8 dX5_copy_25 (Or.inl fl_X5_48) RO_obj (by decide) rfl ?_
      refine px_iload_n dX5_copy_28 rfl ?_
      refine px_rsh dX5_copy_29 ht ?_
      refine px_ast_7 dX5_copy_30 (by decide) rfl ?_
      refine px_aload dX5_copy_32 rfl ?_
      refine px_heap (ro_sa hs).symm ?_
      refine px_sL dX5_copy_34 (Or.inr ⟨_, fl_X5_245⟩) ?_
      refine px_heap (ro_sa hs) ?_
      refine px_iconst (v := -1) dX5_copy_37 (by decide) ?_
      refine px_icmp_eq 50 dX5_copy_38 (by decide) (fun c38 => ?_) (fun c38 => ?_)
      · exact absurd c38 hn.1
      · refine px_aload dX5_copy_41 rfl ?_
        refine px_heap (ro_sa ht).symm ?_
        refine px_sL dX5_copy_43 (Or.inr ⟨_, fl_X5_245⟩) ?_
        refine px_heap (ro_sa ht) ?_
        refine px_iconst (v := -1) dX5_copy_46 (by decide) ?_
        refine px_icmp_ne 53 dX5_copy_47 (by decide) (fun c47 => ?_) (fun c47 => ?_)
        · refine px_aload dX5_copy_53 rfl ?_
          refine px_heap (ro_sa hs).symm ?_
          refine px_sL dX5_copy_55 (Or.inr ⟨_, fl_X5_245⟩) ?_
          refine px_heap (ro_sa hs) ?_
          refine px_aload dX5_copy_58 rfl ?_
          refine px_heap (ro_sa ht).symm ?_
          refine px_sL dX5_copy_60 (Or.inr ⟨_, fl_X5_245⟩) ?_
          refine px_heap (ro_sa ht) ?_
          refine px_icmp_eq 69 dX5_copy_63 (by decide) (fun c63 => ?_) (fun c63 => ?_)
          · refine px_aload dX5_copy_69 rfl ?_
            refine px_iload_n dX5_copy_71 rfl ?_
            refine px_iload dX5_copy_72 rfl ?_
            refine px_vi (M2 := mX2_holds) (osr hs rfl (c_X2_holds (nI f) (nI k))) mw_X2_holds wm_X2_holds we_X2_holds (Or.inr ⟨_, ml_X5_256⟩) dX5_copy_74 ((ro_so hs)) rfl (by decide) rfl rfl (Nat.le_of_ble_eq_true rfl) ⟨rfl, rfl⟩ ?_
            refine px_if_eqB 92 dX5_copy_77 (by decide) (fun c77 => ?_) (fun c77 => ?_)
            · rw [shold_ok hz1 hf] at c77
              cases c77
            · refine px_aload dX5_copy_80 rfl ?_
              refine px_iload dX5_copy_82 rfl ?_
              refine px_iload dX5_copy_84 rfl ?_
              refine px_vi (M2 := mX2_holds) (osr ht rfl (c_X2_holds (nI g) (nI k))) mw_X2_holds wm_X2_holds we_X2_holds (Or.inr ⟨_, ml_X5_256⟩) dX5_copy_86 ((ro_so ht)) rfl (by decide) rfl rfl (Nat.le_of_ble_eq_true rfl) ⟨rfl, rfl⟩ ?_
              refine px_if_neB 95 dX5_copy_89 (by decide) (fun c89 => ?_) (fun c89 => ?_)
              · refine px_aload dX5_copy_95 rfl ?_
                refine px_heap (ro_sa hs).symm ?_
                refine px_sR dX5_copy_97 (Or.inr ⟨_, fl_X5_259⟩) ?_
                refine px_heap (ro_sa hs) ?_
                refine px_iload_n dX5_copy_100 rfl ?_
                refine px_aload dX5_copy_101 rfl ?_
                refine px_heap (ro_sa ht).symm ?_
                refine px_sR dX5_copy_103 (Or.inr ⟨_, fl_X5_259⟩) ?_
                refine px_heap (ro_sa ht) ?_
                refine px_iload dX5_copy_106 rfl ?_
                refine px_iload dX5_copy_108 rfl ?_
                refine px_copyl dX5_copy_110 ml_X5_263 (ro_si hs) (ro_si ht) (by omega) (by omega) (by decide) (by decide) (Nat.le_of_ble_eq_true rfl) (Nat.le_of_ble_eq_true rfl) (px_heap (ro_sw ht) ?_)
                refine px_iload dX5_copy_113 rfl ?_
                exact px_iret dX5_copy_115 rfl rfl rfl ⟨rfl, rfl⟩
              · rw [shold_ok hz2 hg] at c89
                cases c89
          · exact absurd hc c63
        · exact absurd c47 hn.2
    · cases c11
