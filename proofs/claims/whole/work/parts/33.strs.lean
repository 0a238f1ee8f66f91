/-! ===== the text "pfcdr" and indexOf ===== -/
section PXST
variable {E : xE} {M M2 : xM} {Q : Option Value → xHp → Prop} {k n pc idx np : Nat} {lo : List (Option Value)} {r As st : List Value} {h h2 : xHp}
theorem px_ldcS (hd : decode (xC M) pc = .ok (.ldc 51, 2)) (hc : (xY M).cls = "RobbedOnce$Tape") (kk : PW E M Q k n (pc + 2) lo (.ref (E.2 1) :: r) h) : PW E M Q k n pc lo r h := fun l p e s m args below meth c C H locs ls hH hS hl => va_ldcS (own := "RobbedOnce$Tape") C.1 C.2.1 (by rw [← hc]; exact C.2.2.2.2.2.1) C.2.2.2.2.2.2.2.2.1.2.1 hd (kk l p e s m args below meth c C H locs ls hH hS hl)
theorem px_svvalue (hd : decode (xC M) pc = .ok (.getfield idx, 3)) (hw : Cond.fieldLink (xY M).cls idx "java/lang/String" "value" "[B" ∈ GW) (kk : PW E M Q k n (pc + 3) lo (.ref (E.2 2) :: r) h) : PW E M Q k n pc lo (.ref (E.2 1) :: r) h := fun l p e s m args below meth c C H locs ls hH hS hl => vk_getf C.1 C.2.1 (C.2.2.2.2.2.2.2.2.1.1.1 0 (by decide)).2.2.1 hS C.2.2.2.2.2.1 (C.2.2.2.2.2.2.1 _ hw) (fun _ h9 => h9) hd (kk l p e s m args below meth c C H locs ls hH hS hl)
theorem px_svcoder (hd : decode (xC M) pc = .ok (.getfield idx, 3)) (hw : Cond.fieldLink (xY M).cls idx "java/lang/String" "coder" "B" ∈ GW) (kk : PW E M Q k n (pc + 3) lo (.int (nI 0) :: r) h) : PW E M Q k n pc lo (.ref (E.2 1) :: r) h := fun l p e s m args below meth c C H locs ls hH hS hl => vk_getf C.1 C.2.1 (C.2.2.2.2.2.2.2.2.1.1.1 0 (by decide)).2.1 hS C.2.2.2.2.2.1 (C.2.2.2.2.2.2.1 _ hw) (fun _ h9 => h9) hd (kk l p e s m args below meth c C H locs ls hH hS hl)
theorem px_cs (hd : decode (xC M) pc = .ok (.getstatic idx, 3)) (hw : Cond.fieldLink (xY M).cls idx "java/lang/String" "COMPACT_STRINGS" "Z" ∈ GW) (kk : PW E M Q k n (pc + 3) lo (.int (nI 1) :: r) h) : PW E M Q k n pc lo r h := fun l p e s m args below meth c C H locs ls hH hS hl => va_gets C.1 C.2.1 C.2.2.2.2.2.2.2.2.1.2.2.1 hS C.2.2.2.2.2.1 (C.2.2.2.2.2.2.1 _ hw) (fun _ h9 => h9) hd (kk l p e s m args below meth c C H locs ls hH hS hl)
theorem px_blen (hd : decode (xC M) pc = .ok (.arraylength, 1)) (kk : PW E M Q k n (pc + 1) lo (.int (nI 5) :: r) h) : PW E M Q k n pc lo (.ref (E.2 2) :: r) h := fun l p e s m args below meth c C H locs ls hH hS hl => va_tlen C.1 C.2.1 (C.2.2.2.2.2.2.2.2.1.1.1 0 (by decide)).2.2.2 hS rfl hd (kk l p e s m args below meth c C H locs ls hH hS hl)
def pfc (i : Nat) : Int32 := ([112, 102, 99, 100, 114] : List Int32).getD i 0
theorem px_bald {i : Nat} (hd : decode (xC M) pc = .ok (.baload, 1)) (hi : i < 5) (kk : PW E M Q k n (pc + 1) lo (.int (pfc i) :: r) h) : PW E M Q k n pc lo (.int (nI i) :: .ref (E.2 2) :: r) h := fun l p e s m args below meth c C H locs ls hH hS hl => va_tb C.1 C.2.1 (C.2.2.2.2.2.2.2.2.1.1.1 0 (by decide)).2.2.2 hS (vp_in_nI hi (by decide)) (by rw [nI_clamp (by omega)]; rfl) hd (kk l p e s m args below meth c C H locs ls hH hS hl)
theorem px_strI {x : Int32} (hm : PMI E M2 (.ref (E.2 1) :: As) h x h2) (hw : xMW M2 np) (hi : Cond.instanceMethod (xY M2) ∈ GW) (hse : Cond.selects (xY M2).cls (xY M2) (xY M2) ∈ GW) (hl : xML (xY M).cls idx (xY M2)) (hd : decode (xC M) pc = .ok (.invokevirtual idx, 3)) (hc : (xY M2).cls = "java/lang/String") (hR : xd M2 + 1 ≤ xd M ∧ 8 + (xL M2 + 11) + 39 * xd M2 ≤ 39 * xd M) (hn : As.length = np) (hst : st = As.reverse ++ .ref (E.2 1) :: r) (hcat : (r.map fun v => v.category).sum ≤ 8) (hz : xmc M2 = 0 ∧ xms M2 = 0)
    (kk : PW E M Q 0 0 (pc + 3) lo (.int x :: r) h2) : PW E M Q 0 0 pc lo st h := by
  subst hst
  intro l p e s m args below meth c C H locs ls hH hS hlv
  have hts := C.2.2.2.2.2.2.1
  have hrecv : ∃ cell : Cell, H[E.2 1]? = some cell ∧ cell.vm.isStatics = false ∧ s.vm.findClass (xY M2).cls = some cell.cls := by
    rw [hc]
    have hv := vk_recv (H := H) (i := 0) C.2.2.2.2.2.2.2.2.1.1 (by decide) hS
    exact hv
  have hpre : ∀ U : State, U.heap = H → s.WarmedH U.vm → va_Pc (.ref (E.2 1) :: As) (xPre E h) (Value.ref (E.2 1) :: As).toArray U := fun U hU hW => ⟨rfl, xPre_of C.2.2.2.2.2.2.2.1 C.2.2.2.2.2.2.2.2.1 hS hH hU hW⟩
  have hf : 0 + xmc M2 ≤ xmc M ∧ 0 + xms M2 ≤ xms M := ⟨by rw [hz.1]; exact Nat.zero_le _, by rw [hz.2]; exact Nat.zero_le _⟩
  have kk2 : ∀ (v : Option Value) (h' : xHp), (v = some (.int x) ∧ h' = h2) → PW E M Q (0 + xmc M2) (0 + xms M2) (pc + 3) lo (v.toList ++ r) h' := by
    intro v h' hq
    obtain ⟨rfl, rfl⟩ := hq
    rw [hz.1, hz.2]
    exact kk
  rcases hl with hl | ⟨host, hl⟩
  · refine px_run (M2 := M2) C hS hlv (va_runV (bytes := xC M2) (maxL := xL M2) (ret := xR M2) ⟨C.1, C.2.1, C.2.2.1, C.2.2.2.2.2.1, hts⟩ (hm l) ⟨callB_of np hts (gw_cons hw.1) rfl rfl rfl (hts _ hw.2.1) (hts _ hl) hw.2.2 hR, hts _ hi, hts _ hse⟩ ⟨xPre_blind _, hrecv, hpre⟩ rfl hn hlv.1 rfl (lv_room hcat) hd hf) kk2
  · refine px_run (M2 := M2) C hS hlv (va_runVN (bytes := xC M2) (maxL := xL M2) (ret := xR M2) (C := (xY M2).cls) (host := host) ⟨C.1, C.2.1, C.2.2.1, C.2.2.2.2.2.1, hts⟩ (hm l) ⟨va_cnB np hts (gw_cons hw.1) rfl rfl rfl (C.2.2.2.2.2.2.2.1.2 _ hl) (hts _ hw.2.1) hw.2.2 hR, hts _ hi, hts _ hse⟩ ⟨xPre_blind _, hrecv, hpre⟩ rfl hn hlv.1 rfl (lv_room hcat) hd hf) kk2
end PXST
set_option maxHeartbeats 4000000 in
set_option maxRecDepth 100000 in
theorem c_J0_isLatin1_aae02 {E : xE} {h : xHp} : PMI E mJ0_isLatin1_aae02 [.ref (E.2 1)] h (bI true) h := by
  refine pm_of [some (.ref (E.2 1))] (by decide +kernel) (Nat.le_of_ble_eq_true rfl) rfl ?_
  refine px_cs dJ0_isLatin1_aae02_0 fl_J0_38 ?_
  refine px_if_eq 17 dJ0_isLatin1_aae02_3 (by decide) (fun z => absurd z (by decide)) (fun _ => ?_)
  refine px_aload_n dJ0_isLatin1_aae02_6 rfl ?_
  refine px_svcoder dJ0_isLatin1_aae02_7 fl_J0_15 ?_
  refine px_if_ne 17 dJ0_isLatin1_aae02_10 (by decide) (fun z => absurd z (by decide)) (fun _ => ?_)
  refine px_iconst (v := nI 1) dJ0_isLatin1_aae02_13 (by decide) ?_
  refine px_goto 18 dJ0_isLatin1_aae02_14 (by decide) ?_
  exact px_bret (b := true) dJ0_isLatin1_aae02_18 rfl rfl rfl rfl ⟨rfl, rfl⟩
set_option maxHeartbeats 4000000 in
set_option maxRecDepth 100000 in
theorem c_J0_coder_7d493 {E : xE} {h : xHp} : PMI E mJ0_coder_7d493 [.ref (E.2 1)] h (nI 0) h := by
  refine pm_of [some (.ref (E.2 1))] (by decide +kernel) (Nat.le_of_ble_eq_true rfl) rfl ?_
  refine px_cs dJ0_coder_7d493_0 fl_J0_38 ?_
  refine px_if_eq 13 dJ0_coder_7d493_3 (by decide) (fun z => absurd z (by decide)) (fun _ => ?_)
  refine px_aload_n dJ0_coder_7d493_6 rfl ?_
  refine px_svcoder dJ0_coder_7d493_7 fl_J0_15 ?_
  refine px_goto 14 dJ0_coder_7d493_10 (by decide) ?_
  exact px_zret (v := nI 0) dJ0_coder_7d493_14 rfl rfl rfl rfl ⟨rfl, rfl⟩
set_option maxHeartbeats 4000000 in
set_option maxRecDepth 100000 in
theorem c_J0_length_8abf5 {E : xE} {h : xHp} : PMI E mJ0_length_8abf5 [.ref (E.2 1)] h (nI 5) h := by
  refine pm_of [some (.ref (E.2 1))] (by decide +kernel) (Nat.le_of_ble_eq_true rfl) rfl ?_
  refine px_aload_n dJ0_length_8abf5_0 rfl ?_
  refine px_svvalue dJ0_length_8abf5_1 fl_J0_9 ?_
  refine px_blen dJ0_length_8abf5_4 ?_
  refine px_aload_n dJ0_length_8abf5_5 rfl ?_
  refine px_strI (M2 := mJ0_coder_7d493) (c_J0_coder_7d493) mw_J0_coder_7d493 wm_J0_coder_7d493 we_J0_coder_7d493 (Or.inl ml_J0_335) dJ0_length_8abf5_6 rfl (by decide) rfl rfl (Nat.le_of_ble_eq_true rfl) ⟨rfl, rfl⟩ ?_
  refine px_ishr dJ0_length_8abf5_9 (px_topi (show nI 5 >>> (nI 0 &&& 31) = nI 5 from by decide) ?_)
  exact px_iret dJ0_length_8abf5_10 rfl rfl rfl ⟨rfl, rfl⟩
set_option maxHeartbeats 4000000 in
set_option maxRecDepth 100000 in
theorem c_J1_canEncode_9a6ad {E : xE} {h : xHp} (c : Nat) (hc : c ≤ 126) : PMI E mJ1_canEncode_9a6ad [.int (nI c)] h (bI true) h := by
  refine pm_of [some (.int (nI c))] (by decide +kernel) (Nat.le_of_ble_eq_true rfl) rfl ?_
  refine px_iload_n dJ1_canEncode_9a6ad_0 rfl ?_
  refine px_if_ltN 15 dJ1_canEncode_9a6ad_1 (by decide) (by omega) ?_
  refine px_iload_n dJ1_canEncode_9a6ad_4 rfl ?_
  refine px_sipush (v := nI 255) dJ1_canEncode_9a6ad_5 (by decide) ?_
  refine px_icmp_gtN 15 dJ1_canEncode_9a6ad_8 (by decide) (by omega) (by omega) (fun c8 => ?_) (fun c8 => ?_)
  · omega
  · refine px_iconst (v := nI 1) dJ1_canEncode_9a6ad_11 (by decide) ?_
    refine px_goto 16 dJ1_canEncode_9a6ad_12 (by decide) ?_
    exact px_bret (b := true) dJ1_canEncode_9a6ad_16 rfl rfl rfl rfl ⟨rfl, rfl⟩
def pfq (c : Nat) : Nat → Bool := fun i => decide (pfc i = nI c)
theorem by_small : ∀ c, c ≤ 126 → (nI c).toInt8.toInt32 = nI c := by decide +kernel
set_option maxHeartbeats 4000000 in
set_option maxRecDepth 100000 in
theorem l_J1_indexOfChar_4cfef {E : xE} {h : xHp} (c : Nat) (hc : c ≤ 126) : ∀ (n i : Nat), i + n = 5 → PW E mJ1_indexOfChar_4cfef (fun v h1 => v = some (.int (eI (ffrom (pfq c) n i))) ∧ h1 = h) 0 0 7 [some (.ref (E.2 2)), some (.int (nI c)), some (.int (nI 0)), some (.int (nI 5)), some (.int (nI c)), some (.int (nI i))] [] h := by
  intro n
  induction n with
  | zero =>
    intro i h1
    refine px_iload dJ1_indexOfChar_4cfef_7 rfl ?_
    refine px_iload_n dJ1_indexOfChar_4cfef_9 rfl ?_
    refine px_icmp_geN 31 dJ1_indexOfChar_4cfef_10 (by decide) (by omega) (by omega) (fun c10 => ?_) (fun c10 => ?_)
    · refine px_iconst (v := -1) dJ1_indexOfChar_4cfef_31 (by decide) ?_
      exact px_iret dJ1_indexOfChar_4cfef_32 rfl rfl rfl ⟨rfl, rfl⟩
    · omega
  | succ n ih =>
    intro i h1
    refine px_iload dJ1_indexOfChar_4cfef_7 rfl ?_
    refine px_iload_n dJ1_indexOfChar_4cfef_9 rfl ?_
    refine px_icmp_geN 31 dJ1_indexOfChar_4cfef_10 (by decide) (by omega) (by omega) (fun c10 => ?_) (fun c10 => ?_)
    · omega
    · refine px_aload_n dJ1_indexOfChar_4cfef_13 rfl ?_
      refine px_iload dJ1_indexOfChar_4cfef_14 rfl ?_
      refine px_bald dJ1_indexOfChar_4cfef_16 (by omega) ?_
      refine px_iload dJ1_indexOfChar_4cfef_17 rfl ?_
      refine px_icmp_ne 25 dJ1_indexOfChar_4cfef_19 (by decide) (fun c19 => ?_) (fun c19 => ?_)
      · refine px_inc_5 dJ1_indexOfChar_4cfef_25 rfl (nI_1 _) (by decide) rfl ?_
        refine px_goto 7 dJ1_indexOfChar_4cfef_28 (by decide) ?_
        rw [ffrom_n (p := pfq c) (decide_eq_false c19)]
        exact ih (i + 1) (by omega)
      · refine px_iload dJ1_indexOfChar_4cfef_22 rfl ?_
        exact px_iret dJ1_indexOfChar_4cfef_24 rfl rfl rfl ⟨(by rw [ffrom_y (p := pfq c) (decide_eq_true c19)]; rfl), rfl⟩
set_option maxHeartbeats 4000000 in
set_option maxRecDepth 100000 in
theorem c_J1_indexOfChar_4cfef {E : xE} {h : xHp} (c : Nat) (hc : c ≤ 126) : PMI E mJ1_indexOfChar_4cfef [.ref (E.2 2), .int (nI c), .int (nI 0), .int (nI 5)] h (eI (ffrom (pfq c) 5 0)) h := by
  refine pm_of [some (.ref (E.2 2)), some (.int (nI c)), some (.int (nI 0)), some (.int (nI 5)), none, none] (by decide +kernel) (Nat.le_of_ble_eq_true rfl) rfl ?_
  refine px_iload_n dJ1_indexOfChar_4cfef_0 rfl ?_
  refine px_i2b dJ1_indexOfChar_4cfef_1 ?_
  refine px_topi (by_small c hc) ?_
  refine px_ist_4 dJ1_indexOfChar_4cfef_2 (by decide) rfl ?_
  refine px_iload_n dJ1_indexOfChar_4cfef_4 rfl ?_
  refine px_ist_5 dJ1_indexOfChar_4cfef_5 (by decide) rfl ?_
  exact l_J1_indexOfChar_4cfef c hc 5 0 rfl
set_option maxHeartbeats 4000000 in
set_option maxRecDepth 100000 in
theorem c_J1_indexOf_4cfef {E : xE} {h : xHp} (c : Nat) (hc : c ≤ 126) : PMI E mJ1_indexOf_4cfef [.ref (E.2 2), .int (nI c), .int (nI 0), .int (nI 5)] h (eI (ffrom (pfq c) 5 0)) h := by
  refine pm_of [some (.ref (E.2 2)), some (.int (nI c)), some (.int (nI 0)), some (.int (nI 5))] (by decide +kernel) (Nat.le_of_ble_eq_true rfl) rfl ?_
  refine px_iload_n dJ1_indexOf_4cfef_0 rfl ?_
  refine px_si (c_J1_canEncode_9a6ad c hc) mw_J1_canEncode_9a6ad wt_J1_canEncode_9a6ad (Or.inl ml_J1_88) dJ1_indexOf_4cfef_1 (by decide) rfl rfl (Nat.le_of_ble_eq_true rfl) ⟨rfl, rfl⟩ ?_
  refine px_if_neB 9 dJ1_indexOf_4cfef_4 (by decide) (fun c4 => ?_) (fun c4 => ?_)
  · refine px_iload_n dJ1_indexOf_4cfef_9 rfl ?_
    refine px_iconst (v := nI 0) dJ1_indexOf_4cfef_10 (by decide) ?_
    refine px_max dJ1_indexOf_4cfef_11 ml_J1_92 wt_Math_max wi_java_lang_Math wc_Math_max (by decide) (Nat.le_of_ble_eq_true rfl) ⟨Nat.zero_le _, Nat.zero_le _⟩ ?_
    refine px_topi (show (if nI 0 < nI 0 then nI 0 else nI 0) = nI 0 from rfl) ?_
    refine px_istn_2 dJ1_indexOf_4cfef_14 (by decide) rfl ?_
    refine px_iload_n dJ1_indexOf_4cfef_15 rfl ?_
    refine px_aload_n dJ1_indexOf_4cfef_16 rfl ?_
    refine px_blen dJ1_indexOf_4cfef_17 ?_
    refine px_min dJ1_indexOf_4cfef_18 ml_J1_38 wt_Math_min wi_java_lang_Math wc_Math_min (by decide) (Nat.le_of_ble_eq_true rfl) ⟨Nat.zero_le _, Nat.zero_le _⟩ ?_
    refine px_topi (show (if nI 5 < nI 5 then nI 5 else nI 5) = nI 5 from by decide) ?_
    refine px_istn_3 dJ1_indexOf_4cfef_21 (by decide) rfl ?_
    refine px_iload_n dJ1_indexOf_4cfef_22 rfl ?_
    refine px_iload_n dJ1_indexOf_4cfef_23 rfl ?_
    refine px_icmp_ltN 29 dJ1_indexOf_4cfef_24 (by decide) (by omega) (by omega) (fun c24 => ?_) (fun c24 => ?_)
    · refine px_aload_n dJ1_indexOf_4cfef_29 rfl ?_
      refine px_iload_n dJ1_indexOf_4cfef_30 rfl ?_
      refine px_iload_n dJ1_indexOf_4cfef_31 rfl ?_
      refine px_iload_n dJ1_indexOf_4cfef_32 rfl ?_
      refine px_si (c_J1_indexOfChar_4cfef c hc) mw_J1_indexOfChar_4cfef wt_J1_indexOfChar_4cfef (Or.inl ml_J1_95) dJ1_indexOf_4cfef_33 (by decide) rfl rfl (Nat.le_of_ble_eq_true rfl) ⟨rfl, rfl⟩ ?_
      exact px_iret dJ1_indexOf_4cfef_36 rfl rfl rfl ⟨rfl, rfl⟩
    · omega
  · cases c4
set_option maxHeartbeats 4000000 in
set_option maxRecDepth 100000 in
theorem c_J0_indexOf_7cf53 {E : xE} {h : xHp} (c : Nat) (hc : c ≤ 126) : PMI E mJ0_indexOf_7cf53 [.ref (E.2 1), .int (nI c), .int (nI 0)] h (eI (ffrom (pfq c) 5 0)) h := by
  refine pm_of [some (.ref (E.2 1)), some (.int (nI c)), some (.int (nI 0))] (by decide +kernel) (Nat.le_of_ble_eq_true rfl) rfl ?_
  refine px_aload_n dJ0_indexOf_7cf53_0 rfl ?_
  refine px_strI (M2 := mJ0_isLatin1_aae02) (c_J0_isLatin1_aae02) mw_J0_isLatin1_aae02 wm_J0_isLatin1_aae02 we_J0_isLatin1_aae02 (Or.inl ml_J0_492) dJ0_indexOf_7cf53_1 rfl (by decide) rfl rfl (Nat.le_of_ble_eq_true rfl) ⟨rfl, rfl⟩ ?_
  refine px_if_eqB 23 dJ0_indexOf_7cf53_4 (by decide) (fun c4 => ?_) (fun c4 => ?_)
  · cases c4
  · refine px_aload_n dJ0_indexOf_7cf53_7 rfl ?_
    refine px_svvalue dJ0_indexOf_7cf53_8 fl_J0_9 ?_
    refine px_iload_n dJ0_indexOf_7cf53_11 rfl ?_
    refine px_iload_n dJ0_indexOf_7cf53_12 rfl ?_
    refine px_aload_n dJ0_indexOf_7cf53_13 rfl ?_
    refine px_strI (M2 := mJ0_length_8abf5) (c_J0_length_8abf5) mw_J0_length_8abf5 wm_J0_length_8abf5 we_J0_length_8abf5 (Or.inl ml_J0_505) dJ0_indexOf_7cf53_14 rfl (by decide) rfl rfl (Nat.le_of_ble_eq_true rfl) ⟨rfl, rfl⟩ ?_
    refine px_si (c_J1_indexOf_4cfef c hc) mw_J1_indexOf_4cfef wt_J1_indexOf_4cfef (Or.inl ml_J0_637) dJ0_indexOf_7cf53_17 (by decide) rfl rfl (Nat.le_of_ble_eq_true rfl) ⟨rfl, rfl⟩ ?_
    refine px_goto 36 dJ0_indexOf_7cf53_20 (by decide) ?_
    exact px_iret dJ0_indexOf_7cf53_36 rfl rfl rfl ⟨rfl, rfl⟩
set_option maxHeartbeats 4000000 in
set_option maxRecDepth 100000 in
theorem c_J0_indexOf_0f7a4 {E : xE} {h : xHp} (c : Nat) (hc : c ≤ 126) : PMI E mJ0_indexOf_0f7a4 [.ref (E.2 1), .int (nI c)] h (eI (ffrom (pfq c) 5 0)) h := by
  refine pm_of [some (.ref (E.2 1)), some (.int (nI c))] (by decide +kernel) (Nat.le_of_ble_eq_true rfl) rfl ?_
  refine px_aload_n dJ0_indexOf_0f7a4_0 rfl ?_
  refine px_iload_n dJ0_indexOf_0f7a4_1 rfl ?_
  refine px_iconst (v := nI 0) dJ0_indexOf_0f7a4_2 (by decide) ?_
  refine px_strI (M2 := mJ0_indexOf_7cf53) (c_J0_indexOf_7cf53 c hc) mw_J0_indexOf_7cf53 wm_J0_indexOf_7cf53 we_J0_indexOf_7cf53 (Or.inl ml_J0_633) dJ0_indexOf_0f7a4_3 rfl (by decide) rfl rfl (Nat.le_of_ble_eq_true rfl) ⟨rfl, rfl⟩ ?_
  exact px_iret dJ0_indexOf_0f7a4_6 rfl rfl rfl ⟨rfl, rfl⟩
