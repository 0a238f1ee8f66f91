section
variable {E : xE} {h : xHp} {z : Nat} {O : xO}
theorem bad2 {A B : Prop} (h : ¬ (A ∧ B)) : ¬ A ∨ (A ∧ ¬ B) := by
  by_cases hA : A
  · exact Or.inr ⟨hA, fun b => h ⟨hA, b⟩⟩
  · exact Or.inl hA
end
set_option maxHeartbeats 4000000 in
set_option maxRecDepth 100000 in
theorem c_X5_show_n {E : xE} {h : xHp} {z : Nat} {O : xO} (x y : Int32) (hx : ¬ ((0 ≤ x ∧ x < nI ((O.1.1 0).2 0)) ∧ (nI 0 ≤ y ∧ y ≤ nI 1))) : PMI E mX5_show [.ref z, .int x, .int y] (RO E h z O) (-1) (RO E h z O) := by
  refine pm_of [some (.ref z), some (.int x), some (.int y)] (by decide +kernel) (Nat.le_of_ble_eq_true rfl) rfl ?_
  refine px_aload_n dX5_show_0 rfl ?_
  refine px_iload_n dX5_show_1 rfl ?_
  refine px_vi (M2 := mX5_isApprentice) (c_X5_isApprentice x) mw_X5_isApprentice wm_X5_isApprentice we_X5_isApprentice (Or.inl ml_X5_78) dX5_show_2 (RO_obj) rfl (by decide) rfl rfl (Nat.le_of_ble_eq_true rfl) ⟨rfl, rfl⟩ ?_
  refine px_if_eqB 17 dX5_show_5 (by decide) (fun c5 => ?_) (fun c5 => ?_)
  · refine px_iconst (v := -1) dX5_show_17 (by decide) ?_
    exact px_iret dX5_show_18 rfl rfl rfl ⟨rfl, rfl⟩
  · refine px_iload_n dX5_show_8 rfl ?_
    refine px_iconst (v := nI 0) dX5_show_9 (by decide) ?_
    refine px_iconst (v := nI 1) dX5_show_10 (by decide) ?_
    refine px_si (c_X5_isWithin (y) (nI 0) (nI 1)) mw_X5_isWithin wt_X5_isWithin (Or.inl ml_X5_53) dX5_show_11 (by decide) rfl rfl (Nat.le_of_ble_eq_true rfl) ⟨rfl, rfl⟩ ?_
    refine px_if_neB 19 dX5_show_14 (by decide) (fun c14 => ?_) (fun c14 => ?_)
    · exact absurd ⟨of_decide_eq_true c5, of_decide_eq_true c14⟩ hx
    · refine px_iconst (v := -1) dX5_show_17 (by decide) ?_
      exact px_iret dX5_show_18 rfl rfl rfl ⟨rfl, rfl⟩
theorem bI_in (v : Bool) : decide (nI 0 ≤ bI v ∧ bI v ≤ nI 1) = true := by cases v <;> decide
theorem bI_1 (v : Bool) : bI v = nI 1 ↔ v = true := by cases v <;> decide
theorem bI_inj (a b : Bool) : bI a = bI b ↔ a = b := by cases a <;> cases b <;> decide
set_option maxHeartbeats 4000000 in
set_option maxRecDepth 100000 in
theorem c_X5_show_o {E : xE} {h : xHp} {z : Nat} {O : xO} (hOK : tOK (O.1.1 0)) (a : Nat) (v : Bool) (ha : a < (O.1.1 0).2 0) (hn : ((O.1.1 0).2 3).testBit a = true ∨ ((O.1.1 0).2 2).testBit a = v) : PMI E mX5_show [.ref z, .int (nI a), .int (bI v)] (RO E h z O) (-2) (RO E h z O) := by
  have hm6 := hOK.1.1
  refine pm_of [some (.ref z), some (.int (nI a)), some (.int (bI v))] (by decide +kernel) (Nat.le_of_ble_eq_true rfl) rfl ?_
  refine px_aload_n dX5_show_0 rfl ?_
  refine px_iload_n dX5_show_1 rfl ?_
  refine px_vi (M2 := mX5_isApprentice) (c_isA_y ha (by have := hOK.1.1; omega)) mw_X5_isApprentice wm_X5_isApprentice we_X5_isApprentice (Or.inl ml_X5_78) dX5_show_2 (RO_obj) rfl (by decide) rfl rfl (Nat.le_of_ble_eq_true rfl) ⟨rfl, rfl⟩ ?_
  refine px_if_eqB 17 dX5_show_5 (by decide) (fun c5 => ?_) (fun c5 => ?_)
  · cases c5
  · refine px_iload_n dX5_show_8 rfl ?_
    refine px_iconst (v := nI 0) dX5_show_9 (by decide) ?_
    refine px_iconst (v := nI 1) dX5_show_10 (by decide) ?_
    refine px_si (c_X5_isWithin (bI v) (nI 0) (nI 1)) mw_X5_isWithin wt_X5_isWithin (Or.inl ml_X5_53) dX5_show_11 (by decide) rfl rfl (Nat.le_of_ble_eq_true rfl) ⟨rfl, rfl⟩ ?_
    refine px_if_neB 19 dX5_show_14 (by decide) (fun c14 => ?_) (fun c14 => ?_)
    · refine px_aload_n dX5_show_19 rfl ?_
      refine px_get xk_X5 0 dX5_show_20 (Or.inl fl_X5_10) RO_obj (by decide) rfl ?_
      refine px_heap ro_t0a.symm ?_
      refine px_tS 3 dX5_show_23 (Or.inr ⟨_, fl_X5_102⟩) (by decide) ?_
      refine px_heap ro_t0a ?_
      refine px_iload_n dX5_show_26 rfl ?_
      refine px_si (c_X5_has_n ((O.1.1 0).2 3) a (by have := hOK.1.2.2.2.1; omega) (by omega)) mw_X5_has wt_X5_has (Or.inl ml_X5_98) dX5_show_27 (by decide) rfl rfl (Nat.le_of_ble_eq_true rfl) ⟨rfl, rfl⟩ ?_
      refine px_if_neB 57 dX5_show_30 (by decide) (fun c30 => ?_) (fun c30 => ?_)
      · refine px_bipush (v := -2) dX5_show_57 (by decide) ?_
        exact px_iret dX5_show_59 rfl rfl rfl ⟨rfl, rfl⟩
      · refine px_aload_n dX5_show_33 rfl ?_
        refine px_get xk_X5 0 dX5_show_34 (Or.inl fl_X5_10) RO_obj (by decide) rfl ?_
        refine px_heap ro_t0a.symm ?_
        refine px_tS 2 dX5_show_37 (Or.inr ⟨_, fl_X5_95⟩) (by decide) ?_
        refine px_heap ro_t0a ?_
        refine px_iload_n dX5_show_40 rfl ?_
        refine px_si (c_X5_has_n ((O.1.1 0).2 2) a (by have := hOK.1.2.2.1; omega) (by omega)) mw_X5_has wt_X5_has (Or.inl ml_X5_98) dX5_show_41 (by decide) rfl rfl (Nat.le_of_ble_eq_true rfl) ⟨rfl, rfl⟩ ?_
        refine px_iload_n dX5_show_44 rfl ?_
        refine px_iconst (v := nI 1) dX5_show_45 (by decide) ?_
        refine px_icmp_ne 53 dX5_show_46 (by decide) (fun c46 => ?_) (fun c46 => ?_)
        · refine px_iconst (v := nI 0) dX5_show_53 (by decide) ?_
          refine px_icmp_ne 60 dX5_show_54 (by decide) (fun c54 => ?_) (fun c54 => ?_)
          · have hv1 : v = false := by cases v with | false => rfl | true => exact absurd rfl c46
            exact absurd (hn.resolve_left (by rw [c30]; decide)) (fun q => c54 (by rw [q, hv1]; rfl))
          · refine px_bipush (v := -2) dX5_show_57 (by decide) ?_
            exact px_iret dX5_show_59 rfl rfl rfl ⟨rfl, rfl⟩
        · refine px_iconst (v := nI 1) dX5_show_49 (by decide) ?_
          refine px_goto 54 dX5_show_50 (by decide) ?_
          refine px_icmp_ne 60 dX5_show_54 (by decide) (fun c54 => ?_) (fun c54 => ?_)
          · have hv1 : v = true := (bI_1 v).mp c46
            exact absurd (hn.resolve_left (by rw [c30]; decide)) (fun q => c54 (by rw [q, hv1]; rfl))
          · refine px_bipush (v := -2) dX5_show_57 (by decide) ?_
            exact px_iret dX5_show_59 rfl rfl rfl ⟨rfl, rfl⟩
    · rw [bI_in v] at c14
      cases c14
set_option maxHeartbeats 4000000 in
set_option maxRecDepth 100000 in
theorem c_X5_show {E : xE} {h : xHp} {z : Nat} {O : xO} (hOK : tOK (O.1.1 0)) (hx8 : (O.1.2 0).2.1 < 8) (hk8 : (O.1.2 0).2.2 ≤ 8) (a : Nat) (v : Bool) (ha : a < (O.1.1 0).2 0) (hs : ((O.1.1 0).2 3).testBit a = false) (hn : ((O.1.1 0).2 2).testBit a ≠ v) : PMI E mX5_show [.ref z, .int (nI a), .int (bI v)] (RO E h z O) (nI ((tshow (O.1.1 0) a v).2 2)) (RO E h z (oT (oP O 0 (pkeep (O.1.2 0) (O.1.1 0))) 0 (tshow (O.1.1 0) a v))) := by
  have hm6 := hOK.1.1
  refine pm_of [some (.ref z), some (.int (nI a)), some (.int (bI v))] (by decide +kernel) (Nat.le_of_ble_eq_true rfl) rfl ?_
  refine px_aload_n dX5_show_0 rfl ?_
  refine px_iload_n dX5_show_1 rfl ?_
  refine px_vi (M2 := mX5_isApprentice) (c_isA_y ha (by have := hOK.1.1; omega)) mw_X5_isApprentice wm_X5_isApprentice we_X5_isApprentice (Or.inl ml_X5_78) dX5_show_2 (RO_obj) rfl (by decide) rfl rfl (Nat.le_of_ble_eq_true rfl) ⟨rfl, rfl⟩ ?_
  refine px_if_eqB 17 dX5_show_5 (by decide) (fun c5 => ?_) (fun c5 => ?_)
  · cases c5
  · refine px_iload_n dX5_show_8 rfl ?_
    refine px_iconst (v := nI 0) dX5_show_9 (by decide) ?_
    refine px_iconst (v := nI 1) dX5_show_10 (by decide) ?_
    refine px_si (c_X5_isWithin (bI v) (nI 0) (nI 1)) mw_X5_isWithin wt_X5_isWithin (Or.inl ml_X5_53) dX5_show_11 (by decide) rfl rfl (Nat.le_of_ble_eq_true rfl) ⟨rfl, rfl⟩ ?_
    refine px_if_neB 19 dX5_show_14 (by decide) (fun c14 => ?_) (fun c14 => ?_)
    · refine px_aload_n dX5_show_19 rfl ?_
      refine px_get xk_X5 0 dX5_show_20 (Or.inl fl_X5_10) RO_obj (by decide) rfl ?_
      refine px_heap ro_t0a.symm ?_
      refine px_tS 3 dX5_show_23 (Or.inr ⟨_, fl_X5_102⟩) (by decide) ?_
      refine px_heap ro_t0a ?_
      refine px_iload_n dX5_show_26 rfl ?_
      refine px_si (c_X5_has_n ((O.1.1 0).2 3) a (by have := hOK.1.2.2.2.1; omega) (by omega)) mw_X5_has wt_X5_has (Or.inl ml_X5_98) dX5_show_27 (by decide) rfl rfl (Nat.le_of_ble_eq_true rfl) ⟨rfl, rfl⟩ ?_
      refine px_if_neB 57 dX5_show_30 (by decide) (fun c30 => ?_) (fun c30 => ?_)
      · rw [hs] at c30
        cases c30
      · refine px_aload_n dX5_show_33 rfl ?_
        refine px_get xk_X5 0 dX5_show_34 (Or.inl fl_X5_10) RO_obj (by decide) rfl ?_
        refine px_heap ro_t0a.symm ?_
        refine px_tS 2 dX5_show_37 (Or.inr ⟨_, fl_X5_95⟩) (by decide) ?_
        refine px_heap ro_t0a ?_
        refine px_iload_n dX5_show_40 rfl ?_
        refine px_si (c_X5_has_n ((O.1.1 0).2 2) a (by have := hOK.1.2.2.1; omega) (by omega)) mw_X5_has wt_X5_has (Or.inl ml_X5_98) dX5_show_41 (by decide) rfl rfl (Nat.le_of_ble_eq_true rfl) ⟨rfl, rfl⟩ ?_
        refine px_iload_n dX5_show_44 rfl ?_
        refine px_iconst (v := nI 1) dX5_show_45 (by decide) ?_
        refine px_icmp_ne 53 dX5_show_46 (by decide) (fun c46 => ?_) (fun c46 => ?_)
        · refine px_iconst (v := nI 0) dX5_show_53 (by decide) ?_
          refine px_icmp_ne 60 dX5_show_54 (by decide) (fun c54 => ?_) (fun c54 => ?_)
          · refine px_aload_n dX5_show_60 rfl ?_
            refine px_get xk_X5 1 dX5_show_61 (Or.inl fl_X5_19) RO_obj (by decide) rfl ?_
            refine px_aload_n dX5_show_64 rfl ?_
            refine px_get xk_X5 0 dX5_show_65 (Or.inl fl_X5_10) RO_obj (by decide) rfl ?_
            refine px_vv (M2 := mX1_keep) (op0v (c_X1_keep ro_t0a hx8 hk8 (by omega))) mw_X1_keep wm_X1_keep we_X1_keep (Or.inr ⟨_, ml_X5_158⟩) dX5_show_68 (ro_q0) rfl (by decide) rfl rfl (Nat.le_of_ble_eq_true rfl) ⟨rfl, rfl⟩ ?_
            refine px_aload_n dX5_show_71 rfl ?_
            refine px_get xk_X5 0 dX5_show_72 (Or.inl fl_X5_10) RO_obj (by decide) rfl ?_
            refine px_iload_n dX5_show_75 rfl ?_
            refine px_iload_n dX5_show_76 rfl ?_
            refine px_iconst (v := nI 1) dX5_show_77 (by decide) ?_
            refine px_icmp_ne 85 dX5_show_78 (by decide) (fun c78 => ?_) (fun c78 => ?_)
            · refine px_iconst (v := nI 0) dX5_show_85 (by decide) ?_
              refine px_vv (M2 := mX4_setShown) (on0v (c_X4_setShown (T := (oP O 0 (pkeep (O.1.2 0) (O.1.1 0))).1.1 0) a false (by omega))) mw_X4_setShown wm_X4_setShown we_X4_setShown (Or.inr ⟨_, ml_X5_161⟩) dX5_show_86 (ro_o0) rfl (by decide) rfl rfl (Nat.le_of_ble_eq_true rfl) ⟨rfl, rfl⟩ ?_
              refine px_aload_n dX5_show_89 rfl ?_
              refine px_get xk_X5 0 dX5_show_90 (Or.inl fl_X5_10) RO_obj (by decide) rfl ?_
              refine px_heap ro_t0a.symm ?_
              refine px_tS 2 dX5_show_93 (Or.inr ⟨_, fl_X5_95⟩) (by decide) ?_
              refine px_heap ro_t0a ?_
              have hv1 : v = false := by cases v with | false => rfl | true => exact absurd rfl c46
              subst hv1
              exact px_iret dX5_show_96 rfl rfl rfl ⟨rfl, rfl⟩
            · exact absurd c78 c46
          · have hv1 : v = false := by cases v with | false => rfl | true => exact absurd rfl c46
            exact absurd ((bI_inj _ _).mp (c54.trans (show _ = bI v by rw [hv1]; rfl))) hn
        · refine px_iconst (v := nI 1) dX5_show_49 (by decide) ?_
          refine px_goto 54 dX5_show_50 (by decide) ?_
          refine px_icmp_ne 60 dX5_show_54 (by decide) (fun c54 => ?_) (fun c54 => ?_)
          · refine px_aload_n dX5_show_60 rfl ?_
            refine px_get xk_X5 1 dX5_show_61 (Or.inl fl_X5_19) RO_obj (by decide) rfl ?_
            refine px_aload_n dX5_show_64 rfl ?_
            refine px_get xk_X5 0 dX5_show_65 (Or.inl fl_X5_10) RO_obj (by decide) rfl ?_
            refine px_vv (M2 := mX1_keep) (op0v (c_X1_keep ro_t0a hx8 hk8 (by omega))) mw_X1_keep wm_X1_keep we_X1_keep (Or.inr ⟨_, ml_X5_158⟩) dX5_show_68 (ro_q0) rfl (by decide) rfl rfl (Nat.le_of_ble_eq_true rfl) ⟨rfl, rfl⟩ ?_
            refine px_aload_n dX5_show_71 rfl ?_
            refine px_get xk_X5 0 dX5_show_72 (Or.inl fl_X5_10) RO_obj (by decide) rfl ?_
            refine px_iload_n dX5_show_75 rfl ?_
            refine px_iload_n dX5_show_76 rfl ?_
            refine px_iconst (v := nI 1) dX5_show_77 (by decide) ?_
            refine px_icmp_ne 85 dX5_show_78 (by decide) (fun c78 => ?_) (fun c78 => ?_)
            · exact absurd c46 c78
            · refine px_iconst (v := nI 1) dX5_show_81 (by decide) ?_
              refine px_goto 86 dX5_show_82 (by decide) ?_
              refine px_vv (M2 := mX4_setShown) (on0v (c_X4_setShown (T := (oP O 0 (pkeep (O.1.2 0) (O.1.1 0))).1.1 0) a true (by omega))) mw_X4_setShown wm_X4_setShown we_X4_setShown (Or.inr ⟨_, ml_X5_161⟩) dX5_show_86 (ro_o0) rfl (by decide) rfl rfl (Nat.le_of_ble_eq_true rfl) ⟨rfl, rfl⟩ ?_
              refine px_aload_n dX5_show_89 rfl ?_
              refine px_get xk_X5 0 dX5_show_90 (Or.inl fl_X5_10) RO_obj (by decide) rfl ?_
              refine px_heap ro_t0a.symm ?_
              refine px_tS 2 dX5_show_93 (Or.inr ⟨_, fl_X5_95⟩) (by decide) ?_
              refine px_heap ro_t0a ?_
              have hv1 : v = true := (bI_1 v).mp c46
              subst hv1
              exact px_iret dX5_show_96 rfl rfl rfl ⟨rfl, rfl⟩
          · have hv1 : v = true := (bI_1 v).mp c46
            exact absurd ((bI_inj _ _).mp (c54.trans (show _ = bI v by rw [hv1]; rfl))) hn
    · rw [bI_in v] at c14
      cases c14
set_option maxHeartbeats 4000000 in
set_option maxRecDepth 100000 in
theorem c_X5_teach_n {E : xE} {h : xHp} {z : Nat} {O : xO} (x y : Int32) (hx : ¬ ((0 ≤ x ∧ x < nI ((O.1.1 0).2 0)) ∧ (nI 0 ≤ y ∧ y ≤ nI 9))) : PMI E mX5_teach [.ref z, .int x, .int y] (RO E h z O) (-1) (RO E h z O) := by
  refine pm_of [some (.ref z), some (.int x), some (.int y), none] (by decide +kernel) (Nat.le_of_ble_eq_true rfl) rfl ?_
  refine px_aload_n dX5_teach_0 rfl ?_
  refine px_iload_n dX5_teach_1 rfl ?_
  refine px_vi (M2 := mX5_isApprentice) (c_X5_isApprentice x) mw_X5_isApprentice wm_X5_isApprentice we_X5_isApprentice (Or.inl ml_X5_78) dX5_teach_2 (RO_obj) rfl (by decide) rfl rfl (Nat.le_of_ble_eq_true rfl) ⟨rfl, rfl⟩ ?_
  refine px_if_eqB 18 dX5_teach_5 (by decide) (fun c5 => ?_) (fun c5 => ?_)
  · refine px_iconst (v := -1) dX5_teach_18 (by decide) ?_
    exact px_iret dX5_teach_19 rfl rfl rfl ⟨rfl, rfl⟩
  · refine px_iload_n dX5_teach_8 rfl ?_
    refine px_iconst (v := nI 0) dX5_teach_9 (by decide) ?_
    refine px_bipush (v := nI 9) dX5_teach_10 (by decide) ?_
    refine px_si (c_X5_isWithin (y) (nI 0) (nI 9)) mw_X5_isWithin wt_X5_isWithin (Or.inl ml_X5_53) dX5_teach_12 (by decide) rfl rfl (Nat.le_of_ble_eq_true rfl) ⟨rfl, rfl⟩ ?_
    refine px_if_neB 20 dX5_teach_15 (by decide) (fun c15 => ?_) (fun c15 => ?_)
    · exact absurd ⟨of_decide_eq_true c5, of_decide_eq_true c15⟩ hx
    · refine px_iconst (v := -1) dX5_teach_18 (by decide) ?_
      exact px_iret dX5_teach_19 rfl rfl rfl ⟨rfl, rfl⟩
set_option maxHeartbeats 4000000 in
set_option maxRecDepth 100000 in
theorem c_X5_teach_o {E : xE} {h : xHp} {z : Nat} {O : xO} (hOK : tOK (O.1.1 0)) (a c : Nat) (ha : a < (O.1.1 0).2 0) (hc : c ≤ 9) (hn : (O.1.1 0).1 3 a = c) : PMI E mX5_teach [.ref z, .int (nI a), .int (nI c)] (RO E h z O) (-2) (RO E h z O) := by
  have hm6 := hOK.1.1
  refine pm_of [some (.ref z), some (.int (nI a)), some (.int (nI c)), none] (by decide +kernel) (Nat.le_of_ble_eq_true rfl) rfl ?_
  refine px_aload_n dX5_teach_0 rfl ?_
  refine px_iload_n dX5_teach_1 rfl ?_
  refine px_vi (M2 := mX5_isApprentice) (c_isA_y ha (by have := hOK.1.1; omega)) mw_X5_isApprentice wm_X5_isApprentice we_X5_isApprentice (Or.inl ml_X5_78) dX5_teach_2 (RO_obj) rfl (by decide) rfl rfl (Nat.le_of_ble_eq_true rfl) ⟨rfl, rfl⟩ ?_
  refine px_if_eqB 18 dX5_teach_5 (by decide) (fun c5 => ?_) (fun c5 => ?_)
  · cases c5
  · refine px_iload_n dX5_teach_8 rfl ?_
    refine px_iconst (v := nI 0) dX5_teach_9 (by decide) ?_
    refine px_bipush (v := nI 9) dX5_teach_10 (by decide) ?_
    refine px_si (c_X5_isWithin (nI c) (nI 0) (nI 9)) mw_X5_isWithin wt_X5_isWithin (Or.inl ml_X5_53) dX5_teach_12 (by decide) rfl rfl (Nat.le_of_ble_eq_true rfl) ⟨rfl, rfl⟩ ?_
    refine px_if_neB 20 dX5_teach_15 (by decide) (fun c15 => ?_) (fun c15 => ?_)
    · refine px_aload_n dX5_teach_20 rfl ?_
      refine px_get xk_X5 0 dX5_teach_21 (Or.inl fl_X5_10) RO_obj (by decide) rfl ?_
      refine px_heap ro_t0a.symm ?_
      refine px_tR 3 dX5_teach_24 (Or.inr ⟨_, fl_X5_92⟩) (by decide) ?_
      refine px_heap ro_t0a ?_
      refine px_iload_n dX5_teach_27 rfl ?_
      refine px_heap ro_t0a.symm ?_
      refine px_tL 3 dX5_teach_28 (by decide) (by show _ < 6; omega) ?_
      refine px_heap ro_t0a ?_
      refine px_istn_3 dX5_teach_29 (by decide) rfl ?_
      refine px_iload_n dX5_teach_30 rfl ?_
      refine px_iload_n dX5_teach_31 rfl ?_
      refine px_icmp_neN 38 dX5_teach_32 (by decide) (by first | omega | exact hOK.lt (by decide) | exact hOK.lts (by decide)) (by first | omega | exact hOK.lt (by decide) | exact hOK.lts (by decide)) (fun c32 => ?_) (fun c32 => ?_)
      · exact absurd hn c32
      · refine px_bipush (v := -2) dX5_teach_35 (by decide) ?_
        exact px_iret dX5_teach_37 rfl rfl rfl ⟨rfl, rfl⟩
    · rw [in_t (by omega) (by omega) (by decide)] at c15
      cases c15
set_option maxHeartbeats 4000000 in
set_option maxRecDepth 100000 in
theorem c_X5_teach {E : xE} {h : xHp} {z : Nat} {O : xO} (hOK : tOK (O.1.1 0)) (hx8 : (O.1.2 0).2.1 < 8) (hk8 : (O.1.2 0).2.2 ≤ 8) (a c : Nat) (ha : a < (O.1.1 0).2 0) (hc : c ≤ 9) (hn : (O.1.1 0).1 3 a ≠ c) : PMI E mX5_teach [.ref z, .int (nI a), .int (nI c)] (RO E h z O) (nI ((O.1.1 0).1 3 a)) (RO E h z (oT (oP O 0 (pkeep (O.1.2 0) (O.1.1 0))) 0 (tSA (O.1.1 0) 3 a c))) := by
  have hm6 := hOK.1.1
  refine pm_of [some (.ref z), some (.int (nI a)), some (.int (nI c)), none] (by decide +kernel) (Nat.le_of_ble_eq_true rfl) rfl ?_
  refine px_aload_n dX5_teach_0 rfl ?_
  refine px_iload_n dX5_teach_1 rfl ?_
  refine px_vi (M2 := mX5_isApprentice) (c_isA_y ha (by have := hOK.1.1; omega)) mw_X5_isApprentice wm_X5_isApprentice we_X5_isApprentice (Or.inl ml_X5_78) dX5_teach_2 (RO_obj) rfl (by decide) rfl rfl (Nat.le_of_ble_eq_true rfl) ⟨rfl, rfl⟩ ?_
  refine px_if_eqB 18 dX5_teach_5 (by decide) (fun c5 => ?_) (fun c5 => ?_)
  · cases c5
  · refine px_iload_n dX5_teach_8 rfl ?_
    refine px_iconst (v := nI 0) dX5_teach_9 (by decide) ?_
    refine px_bipush (v := nI 9) dX5_teach_10 (by decide) ?_
    refine px_si (c_X5_isWithin (nI c) (nI 0) (nI 9)) mw_X5_isWithin wt_X5_isWithin (Or.inl ml_X5_53) dX5_teach_12 (by decide) rfl rfl (Nat.le_of_ble_eq_true rfl) ⟨rfl, rfl⟩ ?_
    refine px_if_neB 20 dX5_teach_15 (by decide) (fun c15 => ?_) (fun c15 => ?_)
    · refine px_aload_n dX5_teach_20 rfl ?_
      refine px_get xk_X5 0 dX5_teach_21 (Or.inl fl_X5_10) RO_obj (by decide) rfl ?_
      refine px_heap ro_t0a.symm ?_
      refine px_tR 3 dX5_teach_24 (Or.inr ⟨_, fl_X5_92⟩) (by decide) ?_
      refine px_heap ro_t0a ?_
      refine px_iload_n dX5_teach_27 rfl ?_
      refine px_heap ro_t0a.symm ?_
      refine px_tL 3 dX5_teach_28 (by decide) (by show _ < 6; omega) ?_
      refine px_heap ro_t0a ?_
      refine px_istn_3 dX5_teach_29 (by decide) rfl ?_
      refine px_iload_n dX5_teach_30 rfl ?_
      refine px_iload_n dX5_teach_31 rfl ?_
      refine px_icmp_neN 38 dX5_teach_32 (by decide) (by first | omega | exact hOK.lt (by decide) | exact hOK.lts (by decide)) (by first | omega | exact hOK.lt (by decide) | exact hOK.lts (by decide)) (fun c32 => ?_) (fun c32 => ?_)
      · refine px_aload_n dX5_teach_38 rfl ?_
        refine px_get xk_X5 1 dX5_teach_39 (Or.inl fl_X5_19) RO_obj (by decide) rfl ?_
        refine px_aload_n dX5_teach_42 rfl ?_
        refine px_get xk_X5 0 dX5_teach_43 (Or.inl fl_X5_10) RO_obj (by decide) rfl ?_
        refine px_vv (M2 := mX1_keep) (op0v (c_X1_keep ro_t0a hx8 hk8 (by omega))) mw_X1_keep wm_X1_keep we_X1_keep (Or.inr ⟨_, ml_X5_158⟩) dX5_teach_46 (ro_q0) rfl (by decide) rfl rfl (Nat.le_of_ble_eq_true rfl) ⟨rfl, rfl⟩ ?_
        refine px_aload_n dX5_teach_49 rfl ?_
        refine px_get xk_X5 0 dX5_teach_50 (Or.inl fl_X5_10) RO_obj (by decide) rfl ?_
        refine px_heap ro_t0a.symm ?_
        refine px_tR 3 dX5_teach_53 (Or.inr ⟨_, fl_X5_92⟩) (by decide) ?_
        refine px_heap ro_t0a ?_
        refine px_iload_n dX5_teach_56 rfl ?_
        refine px_iload_n dX5_teach_57 rfl ?_
        refine px_heap ro_t0a.symm ?_
        refine px_tW 3 dX5_teach_58 (by decide) (by show _ < 6; omega) ?_
        refine px_heap ro_t0 ?_
        refine px_iload_n dX5_teach_59 rfl ?_
        exact px_iret dX5_teach_60 rfl rfl rfl ⟨rfl, rfl⟩
      · exact absurd c32 hn
    · rw [in_t (by omega) (by omega) (by decide)] at c15
      cases c15
set_option maxHeartbeats 4000000 in
set_option maxRecDepth 100000 in
theorem c_X5_undo_o {E : xE} {h : xHp} {z : Nat} {O : xO} (hk : (O.1.2 0).2.2 = 0) : PMI E mX5_undo [.ref z] (RO E h z O) (-4) (RO E h z O) := by
  refine pm_of [some (.ref z)] (by decide +kernel) (Nat.le_of_ble_eq_true rfl) rfl ?_
  refine px_aload_n dX5_undo_0 rfl ?_
  refine px_get xk_X5 1 dX5_undo_1 (Or.inl fl_X5_19) RO_obj (by decide) rfl ?_
  refine px_heap ro_p0a.symm ?_
  refine px_pK dX5_undo_4 (Or.inr ⟨_, fl_X5_151⟩) ?_
  refine px_heap ro_p0a ?_
  refine px_if_neN 13 dX5_undo_7 (by decide) (by omega) (fun c7 => ?_) (fun c7 => ?_)
  · exact absurd hk c7
  · refine px_bipush (v := -4) dX5_undo_10 (by decide) ?_
    exact px_iret dX5_undo_12 rfl rfl rfl ⟨rfl, rfl⟩
theorem c_tb {E : xE} {h : xHp} {z : Nat} {O : xO} (hx8 : (O.1.2 0).2.1 < 8) (hk8 : (O.1.2 0).2.2 ≤ 8) (h0 : 0 < (O.1.2 0).2.2) : PMV E mX1_takeBack [.ref (z + 8), .ref (z + 1)] (RO E h z O) (RO E h z (oP (oT O 0 (ptown (O.1.2 0) (O.1.1 0))) 0 (pback (O.1.2 0)))) := by
  have := c_X1_takeBack (E := E) (h := RO E h z O) (bp := z + 8) (bn := z + 1) (P := (O.1.2 0)) (Tn := (O.1.1 0)) hx8 hk8 h0 (by omega)
  rw [ro_t0a, ro_p0a, ro_t0, ro_p0] at this
  exact this
set_option maxHeartbeats 4000000 in
set_option maxRecDepth 100000 in
theorem c_X5_undo {E : xE} {h : xHp} {z : Nat} {O : xO} (hx8 : (O.1.2 0).2.1 < 8) (hk8 : (O.1.2 0).2.2 ≤ 8) (h0 : 0 < (O.1.2 0).2.2) : PMI E mX5_undo [.ref z] (RO E h z O) (nI ((pback (O.1.2 0)).2.2)) (RO E h z (oP (oT O 0 (ptown (O.1.2 0) (O.1.1 0))) 0 (pback (O.1.2 0)))) := by
  refine pm_of [some (.ref z)] (by decide +kernel) (Nat.le_of_ble_eq_true rfl) rfl ?_
  refine px_aload_n dX5_undo_0 rfl ?_
  refine px_get xk_X5 1 dX5_undo_1 (Or.inl fl_X5_19) RO_obj (by decide) rfl ?_
  refine px_heap ro_p0a.symm ?_
  refine px_pK dX5_undo_4 (Or.inr ⟨_, fl_X5_151⟩) ?_
  refine px_heap ro_p0a ?_
  refine px_if_neN 13 dX5_undo_7 (by decide) (by omega) (fun c7 => ?_) (fun c7 => ?_)
  · refine px_aload_n dX5_undo_13 rfl ?_
    refine px_get xk_X5 1 dX5_undo_14 (Or.inl fl_X5_19) RO_obj (by decide) rfl ?_
    refine px_aload_n dX5_undo_17 rfl ?_
    refine px_get xk_X5 0 dX5_undo_18 (Or.inl fl_X5_10) RO_obj (by decide) rfl ?_
    refine px_vv (M2 := mX1_takeBack) (c_tb hx8 hk8 h0) mw_X1_takeBack wm_X1_takeBack we_X1_takeBack (Or.inr ⟨_, ml_X5_165⟩) dX5_undo_21 (ro_q0) rfl (by decide) rfl rfl (Nat.le_of_ble_eq_true rfl) ⟨rfl, rfl⟩ ?_
    refine px_aload_n dX5_undo_24 rfl ?_
    refine px_get xk_X5 1 dX5_undo_25 (Or.inl fl_X5_19) RO_obj (by decide) rfl ?_
    refine px_heap ro_p0a.symm ?_
    refine px_pK dX5_undo_28 (Or.inr ⟨_, fl_X5_151⟩) ?_
    refine px_heap ro_p0a ?_
    exact px_iret dX5_undo_31 rfl rfl rfl ⟨rfl, rfl⟩
  · omega
theorem c_i1 {E : xE} {h : xHp} {z : Nat} {O : xO} : PMV E mX4_become [.ref (z + 66), .ref (z + 1)] (RO E h z O) (RO E h z (oT O 1 (O.1.1 0))) := by
  have := c_bec (E := E) (h := RO E h z O) (b := z + 66) (bn := z + 1) (T := O.1.1 1) (Tn := O.1.1 0) ro_t0a ro_t1a (by omega)
  rw [ro_t1] at this
  exact this
theorem c_r1 {E : xE} {h : xHp} {z : Nat} {O : xO} : PMV E mX4_become [.ref (z + 1), .ref (z + 66)] (RO E h z O) (RO E h z (oT O 0 (O.1.1 1))) := by
  have := c_bec (E := E) (h := RO E h z O) (b := z + 1) (bn := z + 66) (T := O.1.1 0) (Tn := O.1.1 1) ro_t1a ro_t0a (by omega)
  rw [ro_t0] at this
  exact this
theorem c_i2 {E : xE} {h : xHp} {z : Nat} {O : xO} : PMV E mX1_become [.ref (z + 73), .ref (z + 8)] (RO E h z O) (RO E h z (oP O 1 (O.1.2 0))) := by
  have := c_X1_become (E := E) (h := RO E h z O) (bp := z + 73) (bq := z + 8) (P := O.1.2 1) (R := O.1.2 0) (by omega)
  rw [ro_p0a, ro_p1a, ro_p1] at this
  exact this
theorem c_r2 {E : xE} {h : xHp} {z : Nat} {O : xO} : PMV E mX1_become [.ref (z + 8), .ref (z + 73)] (RO E h z O) (RO E h z (oP O 0 (O.1.2 1))) := by
  have := c_X1_become (E := E) (h := RO E h z O) (bp := z + 8) (bq := z + 73) (P := O.1.2 0) (R := O.1.2 1) (by omega)
  rw [ro_p1a, ro_p0a, ro_p0] at this
  exact this
set_option maxHeartbeats 4000000 in
set_option maxRecDepth 100000 in
theorem c_X5_image {E : xE} {h : xHp} {z : Nat} {O : xO} : PMI E mX5_image [.ref z] (RO E h z O) (nI 1) (RO E h z (oB (oP (oT O 1 (O.1.1 0)) 1 (O.1.2 0)) true)) := by
  refine pm_of [some (.ref z)] (by decide +kernel) (Nat.le_of_ble_eq_true rfl) rfl ?_
  refine px_aload_n dX5_image_0 rfl ?_
  refine px_get xk_X5 2 dX5_image_1 (Or.inl fl_X5_23) RO_obj (by decide) rfl ?_
  refine px_aload_n dX5_image_4 rfl ?_
  refine px_get xk_X5 0 dX5_image_5 (Or.inl fl_X5_10) RO_obj (by decide) rfl ?_
  refine px_vv (M2 := mX4_become) (c_i1) mw_X4_become wm_X4_become we_X4_become (Or.inr ⟨_, ml_X5_140⟩) dX5_image_8 (ro_o1) rfl (by decide) rfl rfl (Nat.le_of_ble_eq_true rfl) ⟨rfl, rfl⟩ ?_
  refine px_aload_n dX5_image_11 rfl ?_
  refine px_get xk_X5 3 dX5_image_12 (Or.inl fl_X5_26) RO_obj (by decide) rfl ?_
  refine px_aload_n dX5_image_15 rfl ?_
  refine px_get xk_X5 1 dX5_image_16 (Or.inl fl_X5_19) RO_obj (by decide) rfl ?_
  refine px_vv (M2 := mX1_become) (c_i2) mw_X1_become wm_X1_become we_X1_become (Or.inr ⟨_, ml_X5_213⟩) dX5_image_19 (ro_q1) rfl (by decide) rfl rfl (Nat.le_of_ble_eq_true rfl) ⟨rfl, rfl⟩ ?_
  refine px_aload_n dX5_image_22 rfl ?_
  refine px_iconst (v := nI 1) dX5_image_23 (by decide) ?_
  refine px_put xk_X5 4 dX5_image_24 (Or.inl fl_X5_216) RO_obj (by decide) (by show 4 < 9; decide) rfl rfl rfl (px_heap (ro_b (b := true)) ?_)
  refine px_iconst (v := nI 1) dX5_image_27 (by decide) ?_
  exact px_iret dX5_image_28 rfl rfl rfl ⟨rfl, rfl⟩
set_option maxHeartbeats 4000000 in
set_option maxRecDepth 100000 in
theorem c_X5_restore_o {E : xE} {h : xHp} {z : Nat} {O : xO} (hk : O.2.2.2 = false) : PMI E mX5_restore [.ref z] (RO E h z O) (-4) (RO E h z O) := by
  refine pm_of [some (.ref z)] (by decide +kernel) (Nat.le_of_ble_eq_true rfl) rfl ?_
  refine px_aload_n dX5_restore_0 rfl ?_
  refine px_get xk_X5 4 dX5_restore_1 (Or.inl fl_X5_216) RO_obj (by decide) rfl ?_
  refine px_if_neB 10 dX5_restore_4 (by decide) (fun c4 => ?_) (fun c4 => ?_)
  · rw [hk] at c4
    cases c4
  · refine px_bipush (v := -4) dX5_restore_7 (by decide) ?_
    exact px_iret dX5_restore_9 rfl rfl rfl ⟨rfl, rfl⟩
set_option maxHeartbeats 4000000 in
set_option maxRecDepth 100000 in
theorem c_X5_restore {E : xE} {h : xHp} {z : Nat} {O : xO} (hk : O.2.2.2 = true) : PMI E mX5_restore [.ref z] (RO E h z O) (nI 1) (RO E h z (oP (oT O 0 (O.1.1 1)) 0 (O.1.2 1))) := by
  refine pm_of [some (.ref z)] (by decide +kernel) (Nat.le_of_ble_eq_true rfl) rfl ?_
  refine px_aload_n dX5_restore_0 rfl ?_
  refine px_get xk_X5 4 dX5_restore_1 (Or.inl fl_X5_216) RO_obj (by decide) rfl ?_
  refine px_if_neB 10 dX5_restore_4 (by decide) (fun c4 => ?_) (fun c4 => ?_)
  · refine px_aload_n dX5_restore_10 rfl ?_
    refine px_get xk_X5 0 dX5_restore_11 (Or.inl fl_X5_10) RO_obj (by decide) rfl ?_
    refine px_aload_n dX5_restore_14 rfl ?_
    refine px_get xk_X5 2 dX5_restore_15 (Or.inl fl_X5_23) RO_obj (by decide) rfl ?_
    refine px_vv (M2 := mX4_become) (c_r1) mw_X4_become wm_X4_become we_X4_become (Or.inr ⟨_, ml_X5_140⟩) dX5_restore_18 (ro_o0) rfl (by decide) rfl rfl (Nat.le_of_ble_eq_true rfl) ⟨rfl, rfl⟩ ?_
    refine px_aload_n dX5_restore_21 rfl ?_
    refine px_get xk_X5 1 dX5_restore_22 (Or.inl fl_X5_19) RO_obj (by decide) rfl ?_
    refine px_aload_n dX5_restore_25 rfl ?_
    refine px_get xk_X5 3 dX5_restore_26 (Or.inl fl_X5_26) RO_obj (by decide) rfl ?_
    refine px_vv (M2 := mX1_become) (c_r2) mw_X1_become wm_X1_become we_X1_become (Or.inr ⟨_, ml_X5_213⟩) dX5_restore_29 (ro_q0) rfl (by decide) rfl rfl (Nat.le_of_ble_eq_true rfl) ⟨rfl, rfl⟩ ?_
    refine px_iconst (v := nI 1) dX5_restore_32 (by decide) ?_
    exact px_iret dX5_restore_33 rfl rfl rfl ⟨rfl, rfl⟩
  · rw [hk] at c4
    cases c4
