section PXCL
variable {E : xE} {M : xM} {Q : Option Value → xHp → Prop} {pc : Nat} {lo : List (Option Value)} {r : List Value} {h : xHp}
theorem px_copyl {idx a0 a n0 n1 sp dp cnt : Nat} {f g : Nat → Int64} (hd : decode (xC M) pc = .ok (.invokestatic idx, 3)) (hl : Cond.methodLink (xY M).cls idx arraycopyName ∈ GW) (ha0 : h a0 = some (.inl (E.1.2 1, n0, .inr (.inl f)))) (ha : h a = some (.inl (E.1.2 1, n1, .inr (.inl g)))) (h4 : sp + cnt ≤ n0) (h5 : dp + cnt ≤ n1) (hn0 : n0 < 2 ^ 31) (hn1 : n1 < 2 ^ 31) (hR : 1 ≤ xd M) (hcat : (r.map fun v => v.category).sum ≤ 8) (kk : PW E M Q 0 0 (pc + 3) lo r (va_up h a (some (.inl (E.1.2 1, n1, .inr (.inl (va_cpy f g sp dp cnt))))))) : PW E M Q 0 0 pc lo (.int (nI cnt) :: .int (nI dp) :: .ref a :: .int (nI sp) :: .ref a0 :: r) h := by
  intro l p e s m args below meth c C H locs ls hH hS hlv T hT X
  have hts := C.2.2.2.2.2.2.1
  have hK := C.2.2.2.2.2.2.2.1.1
  have bs : sp < 2 ^ 31 := by omega
  have hnat : nativeFrameWords "java/lang/System" "arraycopy" 5 ≤ 20 := by decide
  have bd : dp < 2 ^ 31 := by omega
  have bc : cnt < 2 ^ 31 := by omega
  obtain ⟨hc0, -⟩ := hH.1 a0 _ ha0
  obtain ⟨hc1, hza⟩ := hH.1 a _ ha
  have hc0 : H[a0]? = some (vp_cell (E.1.2 1) (n0, .inr (.inl f))) := hc0
  have hc1 : H[a]? = some (vp_cell (E.1.2 1) (n1, .inr (.inl g))) := hc1
  obtain ⟨-, k0, hk0, cm0, hkk0⟩ := (hK.2 1 (E.1.2 1, .long) rfl).1 n0 (fun j => .long (f j))
  obtain ⟨-, k1, hk1, cm1, hkk1⟩ := (hK.2 1 (E.1.2 1, .long) rfl).1 n1 (fun j => .long (g j))
  obtain ⟨vm', X', step⟩ := X.arraycopy C.1 C.2.2.2.2.2.1 (hts _ hl) (hts _ wn_arraycopy) (hts _ wt_arraycopy) (hts _ wi_java_lang_System) (src := a0) (dst := a) (cs := vp_cell (E.1.2 1) (n0, .inr (.inl f))) (cd := vp_cell (E.1.2 1) (n1, .inr (.inl g))) (srcPos := nI sp) (destPos := nI dp) (n := nI cnt) (by rw [hT]; exact hc0) (by rw [hT]; exact hc1)
    (fun _ h => by cases h) (fun _ h => by cases h) (fun h => by cases h) (fun h => by cases h) hk0 hk1 hkk0 hkk1 (by simp [refKind]) (nI_pos bs) (nI_pos bd) (nI_pos bc)
    (by rw [nI_toInt bs, nI_toInt bc]; show ¬ _ > ((arrV (E.1.2 1) n0 (fun j => .long (f j))).slots.size : Int); rw [arrV_size]; omega)
    (by rw [nI_toInt bd, nI_toInt bc]; show ¬ _ > ((arrV (E.1.2 1) n1 (fun j => .long (g j))).slots.size : Int); rw [arrV_size]; omega)
    (fun vm₁ _ i hi => by
      rw [nI_clamp bc] at hi
      have e : (vp_cell (E.1.2 1) (n0, .inr (.inl f))).slots.getD ((nI sp).toNatClampNeg + i) .null = .long (f ((nI sp).toNatClampNeg + i)) := by
        show (arrV (E.1.2 1) n0 (fun j => .long (f j))).slots.getD _ _ = _
        rw [Array.getD_eq_getD_getElem?, arrV_read _ _ (by rw [nI_clamp bs]; omega)]
        rfl
      refine ⟨?_, ?_⟩
      · rw [e]; rfl
      · rw [e]; exact trivial)
    (g := F0 m pc ls (.int (nI cnt) :: .int (nI dp) :: .ref a :: .int (nI sp) :: .ref a0 :: r)) rfl (by rw [C.2.2.1]; exact hlv.1) (rest := r) rfl (by rw [C.2.1]; exact hd) hR (by show 2 * 0 + _ + (nativeFrameWords "java/lang/System" "arraycopy" 5 + 11) ≤ 39 * xd M; omega)
  have e1 : copied (vp_cell (E.1.2 1) (n0, .inr (.inl f))) (vp_cell (E.1.2 1) (n1, .inr (.inl g))) (nI sp) (nI dp) (nI cnt) = vp_cell (E.1.2 1) (n1, .inr (.inl (va_cpy f g sp dp cnt))) := by
    have := va_copied (fun z => Value.long z) (E.1.2 1) (E.1.2 1) (n0 := n0) (n1 := n1) (sp := sp) (dp := dp) (n := cnt) f g h4
    show (arrV (E.1.2 1) n1 (fun j => .long (g j))).storeRun (nI dp).toNatClampNeg ((arrV (E.1.2 1) n0 (fun j => .long (f j))).stretch (nI sp).toNatClampNeg (nI cnt).toNatClampNeg) = _
    rw [nI_clamp bs, nI_clamp bd, nI_clamp bc]
    exact this
  rw [e1] at X' step
  have hlt : a < H.size := (Array.getElem?_eq_some_iff.mp hc1).1
  have hheap : ((T.setVm vm').setCell a (vp_cell (E.1.2 1) (n1, .inr (.inl (va_cpy f g sp dp cnt))))).heap = H.setIfInBounds a (vp_cell (E.1.2 1) (n1, .inr (.inl (va_cpy f g sp dp cnt)))) := by rw [← hT]; rfl
  have oq : ∀ q : Nat, q ≠ a → (H.setIfInBounds a (vp_cell (E.1.2 1) (n1, .inr (.inl (va_cpy f g sp dp cnt)))))[q]? = H[q]? := fun q hq => by simp [Array.getElem?_setIfInBounds, Ne.symm hq]
  obtain ⟨t, a1, b1⟩ := kk l p e s m args below meth c C _ _ ls (xHold_put hH ha (show (H.setIfInBounds a _)[a]? = some _ by simp [Array.getElem?_setIfInBounds, hlt]) oq (by simp)) ⟨by simp; exact hS.1, fun q g1 g2 => by
      rw [oq q (fun e => g2 (by rw [e]; exact hza))]
      exact hS.2.1 q g1 g2, fun q hq => by
      rcases List.mem_append.mp hq with h | h
      · exact hS.2.2 q h
      · obtain ⟨z, -, hz⟩ := List.mem_map.mp h
        rw [← hz]
        exact hza⟩ hlv _ hheap X'
  exact ⟨t, step t a1, b1⟩
end PXCL
/-! leave -/
def lv2 (q : Nat × Nat) : Nat × Nat := if q.1 % 2 = 0 ∧ q.2 % 2 = 0 then (q.1 / 2, q.2 / 2) else q
def lv5 (q : Nat × Nat) : Nat × Nat := if q.1 % 5 = 0 ∧ q.2 % 5 = 0 then (q.1 / 5, q.2 / 5) else q
def lvit : Nat → Nat × Nat → Nat × Nat
  | 0, q => q
  | n + 1, q => lvit n (lv5 (lv2 q))
theorem bc16 : ∀ s, s < 16 → bc s ≤ 4 := by decide
theorem tways_le {T : xT} {a c : Nat} (hc : c ≤ 10) (ht : T.2 1 ≤ 4) : ∀ s, s ≤ 16 → tways T a c s ≤ s * 100000000
  | 0, _ => by rw [tways]; omega
  | s + 1, hs => by
    have h1 := tways_le (T := T) (a := a) hc ht s (by omega)
    have h2 : c ^ bc s ≤ 10 ^ 4 := Nat.le_trans (Nat.pow_le_pow_left hc _) (Nat.pow_le_pow_right (by decide) (bc16 s (by omega)))
    have h3 : (10 - c) ^ (T.2 1 - bc s) ≤ 10 ^ 4 := Nat.le_trans (Nat.pow_le_pow_left (by omega) _) (Nat.pow_le_pow_right (by decide) (by omega))
    have h4 := Nat.mul_le_mul h2 h3
    have h5 : (10 : Nat) ^ 4 * 10 ^ 4 = 100000000 := by decide
    rw [h5] at h4
    clear h2 h3 h5
    have h6 : (s + 1) * 100000000 = s * 100000000 + 100000000 := Nat.succ_mul _ _
    rw [tways, h6]
    split
    · exact Nat.add_le_add h1 (by assumption)
    · exact Nat.le_trans h1 (Nat.le_add_right _ _)
def tlv (T : xT) (a c w : Nat) : Int32 := if w = 0 then nI (lvit 4 (tways T a c (2 ^ T.2 1), 10 ^ T.2 1)).1 else nI (lvit 4 (tways T a c (2 ^ T.2 1), 10 ^ T.2 1)).2
set_option maxHeartbeats 4000000 in
set_option maxRecDepth 100000 in
theorem l_X5_leave {E : xE} {h : xHp} {z : Nat} {O : xO} {q0 : Nat × Nat} {a c w : Nat} (hw : w ≤ 1) : ∀ (n x y i : Nat), i + n = 4 → x < 2 ^ 31 → y < 2 ^ 31 → lvit 4 q0 = lvit n (x, y) → PW E mX5_leave (fun v h1 => v = some (.int (if w = 0 then nI (lvit 4 q0).1 else nI (lvit 4 q0).2)) ∧ h1 = RO E h z O) 0 0 57 [some (.ref z), some (.int (nI a)), some (.int (nI c)), some (.int (nI w)), some (.int (nI x)), some (.int (nI y)), some (.int (nI i))] [] (RO E h z O) := by
  intro n
  induction n with
  | zero =>
    intro x y i h1 hx hy hgo
    refine px_iload dX5_leave_57 rfl ?_
    refine px_iconst (v := nI 4) dX5_leave_59 (by decide) ?_
    refine px_icmp_geN 121 dX5_leave_60 (by decide) (by omega) (by omega) (fun c60 => ?_) (fun c60 => ?_)
    · refine px_iload_n dX5_leave_121 rfl ?_
      refine px_if_neN 130 dX5_leave_122 (by decide) (by omega) (fun c122 => ?_) (fun c122 => ?_)
      · refine px_iload dX5_leave_130 rfl ?_
        exact px_iret dX5_leave_132 rfl rfl rfl ⟨by rw [hgo, if_neg c122]; rfl, rfl⟩
      · refine px_iload dX5_leave_125 rfl ?_
        refine px_goto 132 dX5_leave_127 (by decide) ?_
        exact px_iret dX5_leave_132 rfl rfl rfl ⟨by rw [hgo, if_pos c122]; rfl, rfl⟩
    · omega
  | succ n ih =>
    intro x y i h1 hx hy hgo
    refine px_iload dX5_leave_57 rfl ?_
    refine px_iconst (v := nI 4) dX5_leave_59 (by decide) ?_
    refine px_icmp_geN 121 dX5_leave_60 (by decide) (by omega) (by omega) (fun c60 => ?_) (fun c60 => ?_)
    · omega
    · refine px_iload dX5_leave_63 rfl ?_
      refine px_iconst (v := nI 2) dX5_leave_65 (by decide) ?_
      refine px_iremN dX5_leave_66 (by omega) (by omega) (by omega) ?_
      refine px_if_neN 89 dX5_leave_67 (by decide) (by omega) (fun c67 => ?_) (fun c67 => ?_)
      · refine px_iload dX5_leave_89 rfl ?_
        refine px_iconst (v := nI 5) dX5_leave_91 (by decide) ?_
        refine px_iremN dX5_leave_92 (by omega) (by omega) (by omega) ?_
        refine px_if_neN 115 dX5_leave_93 (by decide) (by omega) (fun c93 => ?_) (fun c93 => ?_)
        · refine px_inc_6 dX5_leave_115 rfl (nI_1 _) (by decide) rfl ?_
          refine px_goto 57 dX5_leave_118 (by decide) ?_
          have e2 : lv2 (x, y) = (x, y) := if_neg (fun q => c67 q.1)
          have e5 : lv5 (x, y) = (x, y) := if_neg (fun q => c93 q.1)
          exact ih (x) (y) (i + 1) (by omega) (by omega) (by omega) (by rw [hgo]; show lvit n (lv5 (lv2 (x, y))) = _; rw [e2, e5])
        · refine px_iload dX5_leave_96 rfl ?_
          refine px_iconst (v := nI 5) dX5_leave_98 (by decide) ?_
          refine px_iremN dX5_leave_99 (by omega) (by omega) (by omega) ?_
          refine px_if_neN 115 dX5_leave_100 (by decide) (by omega) (fun c100 => ?_) (fun c100 => ?_)
          · refine px_inc_6 dX5_leave_115 rfl (nI_1 _) (by decide) rfl ?_
            refine px_goto 57 dX5_leave_118 (by decide) ?_
            have e2 : lv2 (x, y) = (x, y) := if_neg (fun q => c67 q.1)
            have e5 : lv5 (x, y) = (x, y) := if_neg (fun q => c100 q.2)
            exact ih (x) (y) (i + 1) (by omega) (by omega) (by omega) (by rw [hgo]; show lvit n (lv5 (lv2 (x, y))) = _; rw [e2, e5])
          · refine px_iload dX5_leave_103 rfl ?_
            refine px_iconst (v := nI 5) dX5_leave_105 (by decide) ?_
            refine px_idivN dX5_leave_106 (by omega) (by omega) (by omega) ?_
            refine px_ist_4 dX5_leave_107 (by decide) rfl ?_
            refine px_iload dX5_leave_109 rfl ?_
            refine px_iconst (v := nI 5) dX5_leave_111 (by decide) ?_
            refine px_idivN dX5_leave_112 (by omega) (by omega) (by omega) ?_
            refine px_ist_5 dX5_leave_113 (by decide) rfl ?_
            refine px_inc_6 dX5_leave_115 rfl (nI_1 _) (by decide) rfl ?_
            refine px_goto 57 dX5_leave_118 (by decide) ?_
            have e2 : lv2 (x, y) = (x, y) := if_neg (fun q => c67 q.1)
            have e5 : lv5 (x, y) = (x / 5, y / 5) := if_pos ⟨c93, c100⟩
            exact ih (x / 5) (y / 5) (i + 1) (by omega) (by omega) (by omega) (by rw [hgo]; show lvit n (lv5 (lv2 (x, y))) = _; rw [e2, e5])
      · refine px_iload dX5_leave_70 rfl ?_
        refine px_iconst (v := nI 2) dX5_leave_72 (by decide) ?_
        refine px_iremN dX5_leave_73 (by omega) (by omega) (by omega) ?_
        refine px_if_neN 89 dX5_leave_74 (by decide) (by omega) (fun c74 => ?_) (fun c74 => ?_)
        · refine px_iload dX5_leave_89 rfl ?_
          refine px_iconst (v := nI 5) dX5_leave_91 (by decide) ?_
          refine px_iremN dX5_leave_92 (by omega) (by omega) (by omega) ?_
          refine px_if_neN 115 dX5_leave_93 (by decide) (by omega) (fun c93 => ?_) (fun c93 => ?_)
          · refine px_inc_6 dX5_leave_115 rfl (nI_1 _) (by decide) rfl ?_
            refine px_goto 57 dX5_leave_118 (by decide) ?_
            have e2 : lv2 (x, y) = (x, y) := if_neg (fun q => c74 q.2)
            have e5 : lv5 (x, y) = (x, y) := if_neg (fun q => c93 q.1)
            exact ih (x) (y) (i + 1) (by omega) (by omega) (by omega) (by rw [hgo]; show lvit n (lv5 (lv2 (x, y))) = _; rw [e2, e5])
          · refine px_iload dX5_leave_96 rfl ?_
            refine px_iconst (v := nI 5) dX5_leave_98 (by decide) ?_
            refine px_iremN dX5_leave_99 (by omega) (by omega) (by omega) ?_
            refine px_if_neN 115 dX5_leave_100 (by decide) (by omega) (fun c100 => ?_) (fun c100 => ?_)
            · refine px_inc_6 dX5_leave_115 rfl (nI_1 _) (by decide) rfl ?_
              refine px_goto 57 dX5_leave_118 (by decide) ?_
              have e2 : lv2 (x, y) = (x, y) := if_neg (fun q => c74 q.2)
              have e5 : lv5 (x, y) = (x, y) := if_neg (fun q => c100 q.2)
              exact ih (x) (y) (i + 1) (by omega) (by omega) (by omega) (by rw [hgo]; show lvit n (lv5 (lv2 (x, y))) = _; rw [e2, e5])
            · refine px_iload dX5_leave_103 rfl ?_
              refine px_iconst (v := nI 5) dX5_leave_105 (by decide) ?_
              refine px_idivN dX5_leave_106 (by omega) (by omega) (by omega) ?_
              refine px_ist_4 dX5_leave_107 (by decide) rfl ?_
              refine px_iload dX5_leave_109 rfl ?_
              refine px_iconst (v := nI 5) dX5_leave_111 (by decide) ?_
              refine px_idivN dX5_leave_112 (by omega) (by omega) (by omega) ?_
              refine px_ist_5 dX5_leave_113 (by decide) rfl ?_
              refine px_inc_6 dX5_leave_115 rfl (nI_1 _) (by decide) rfl ?_
              refine px_goto 57 dX5_leave_118 (by decide) ?_
              have e2 : lv2 (x, y) = (x, y) := if_neg (fun q => c74 q.2)
              have e5 : lv5 (x, y) = (x / 5, y / 5) := if_pos ⟨c93, c100⟩
              exact ih (x / 5) (y / 5) (i + 1) (by omega) (by omega) (by omega) (by rw [hgo]; show lvit n (lv5 (lv2 (x, y))) = _; rw [e2, e5])
        · refine px_iload dX5_leave_77 rfl ?_
          refine px_iconst (v := nI 2) dX5_leave_79 (by decide) ?_
          refine px_idivN dX5_leave_80 (by omega) (by omega) (by omega) ?_
          refine px_ist_4 dX5_leave_81 (by decide) rfl ?_
          refine px_iload dX5_leave_83 rfl ?_
          refine px_iconst (v := nI 2) dX5_leave_85 (by decide) ?_
          refine px_idivN dX5_leave_86 (by omega) (by omega) (by omega) ?_
          refine px_ist_5 dX5_leave_87 (by decide) rfl ?_
          refine px_iload dX5_leave_89 rfl ?_
          refine px_iconst (v := nI 5) dX5_leave_91 (by decide) ?_
          refine px_iremN dX5_leave_92 (by omega) (by omega) (by omega) ?_
          refine px_if_neN 115 dX5_leave_93 (by decide) (by omega) (fun c93 => ?_) (fun c93 => ?_)
          · refine px_inc_6 dX5_leave_115 rfl (nI_1 _) (by decide) rfl ?_
            refine px_goto 57 dX5_leave_118 (by decide) ?_
            have e2 : lv2 (x, y) = (x / 2, y / 2) := if_pos ⟨c67, c74⟩
            have e5 : lv5 (x / 2, y / 2) = (x / 2, y / 2) := if_neg (fun q => c93 q.1)
            exact ih (x / 2) (y / 2) (i + 1) (by omega) (by omega) (by omega) (by rw [hgo]; show lvit n (lv5 (lv2 (x, y))) = _; rw [e2, e5])
          · refine px_iload dX5_leave_96 rfl ?_
            refine px_iconst (v := nI 5) dX5_leave_98 (by decide) ?_
            refine px_iremN dX5_leave_99 (by omega) (by omega) (by omega) ?_
            refine px_if_neN 115 dX5_leave_100 (by decide) (by omega) (fun c100 => ?_) (fun c100 => ?_)
            · refine px_inc_6 dX5_leave_115 rfl (nI_1 _) (by decide) rfl ?_
              refine px_goto 57 dX5_leave_118 (by decide) ?_
              have e2 : lv2 (x, y) = (x / 2, y / 2) := if_pos ⟨c67, c74⟩
              have e5 : lv5 (x / 2, y / 2) = (x / 2, y / 2) := if_neg (fun q => c100 q.2)
              exact ih (x / 2) (y / 2) (i + 1) (by omega) (by omega) (by omega) (by rw [hgo]; show lvit n (lv5 (lv2 (x, y))) = _; rw [e2, e5])
            · refine px_iload dX5_leave_103 rfl ?_
              refine px_iconst (v := nI 5) dX5_leave_105 (by decide) ?_
              refine px_idivN dX5_leave_106 (by omega) (by omega) (by omega) ?_
              refine px_ist_4 dX5_leave_107 (by decide) rfl ?_
              refine px_iload dX5_leave_109 rfl ?_
              refine px_iconst (v := nI 5) dX5_leave_111 (by decide) ?_
              refine px_idivN dX5_leave_112 (by omega) (by omega) (by omega) ?_
              refine px_ist_5 dX5_leave_113 (by decide) rfl ?_
              refine px_inc_6 dX5_leave_115 rfl (nI_1 _) (by decide) rfl ?_
              refine px_goto 57 dX5_leave_118 (by decide) ?_
              have e2 : lv2 (x, y) = (x / 2, y / 2) := if_pos ⟨c67, c74⟩
              have e5 : lv5 (x / 2, y / 2) = (x / 2 / 5, y / 2 / 5) := if_pos ⟨c93, c100⟩
              exact ih (x / 2 / 5) (y / 2 / 5) (i + 1) (by omega) (by omega) (by omega) (by rw [hgo]; show lvit n (lv5 (lv2 (x, y))) = _; rw [e2, e5])
set_option maxHeartbeats 4000000 in
set_option maxRecDepth 100000 in
theorem c_X5_leave_n {E : xE} {h : xHp} {z : Nat} {O : xO} (x y w : Int32) (hx : ¬ ((0 ≤ x ∧ x < nI ((O.1.1 0).2 0)) ∧ (nI 0 ≤ y ∧ y ≤ nI 10) ∧ (nI 0 ≤ w ∧ w ≤ nI 1))) : PMI E mX5_leave [.ref z, .int x, .int y, .int w] (RO E h z O) (-1) (RO E h z O) := by
  refine pm_of [some (.ref z), some (.int x), some (.int y), some (.int w), none, none, none] (by decide +kernel) (Nat.le_of_ble_eq_true rfl) rfl ?_
  refine px_aload_n dX5_leave_0 rfl ?_
  refine px_iload_n dX5_leave_1 rfl ?_
  refine px_vi (M2 := mX5_isApprentice) (c_X5_isApprentice x) mw_X5_isApprentice wm_X5_isApprentice we_X5_isApprentice (Or.inl ml_X5_78) dX5_leave_2 (RO_obj) rfl (by decide) rfl rfl (Nat.le_of_ble_eq_true rfl) ⟨rfl, rfl⟩ ?_
  refine px_if_eqB 27 dX5_leave_5 (by decide) (fun c5 => ?_) (fun c5 => ?_)
  · refine px_iconst (v := -1) dX5_leave_27 (by decide) ?_
    exact px_iret dX5_leave_28 rfl rfl rfl ⟨rfl, rfl⟩
  · refine px_iload_n dX5_leave_8 rfl ?_
    refine px_iconst (v := nI 0) dX5_leave_9 (by decide) ?_
    refine px_bipush (v := nI 10) dX5_leave_10 (by decide) ?_
    refine px_si (c_X5_isWithin (y) (nI 0) (nI 10)) mw_X5_isWithin wt_X5_isWithin (Or.inl ml_X5_53) dX5_leave_12 (by decide) rfl rfl (Nat.le_of_ble_eq_true rfl) ⟨rfl, rfl⟩ ?_
    refine px_if_eqB 27 dX5_leave_15 (by decide) (fun c15 => ?_) (fun c15 => ?_)
    · refine px_iconst (v := -1) dX5_leave_27 (by decide) ?_
      exact px_iret dX5_leave_28 rfl rfl rfl ⟨rfl, rfl⟩
    · refine px_iload_n dX5_leave_18 rfl ?_
      refine px_iconst (v := nI 0) dX5_leave_19 (by decide) ?_
      refine px_iconst (v := nI 1) dX5_leave_20 (by decide) ?_
      refine px_si (c_X5_isWithin (w) (nI 0) (nI 1)) mw_X5_isWithin wt_X5_isWithin (Or.inl ml_X5_53) dX5_leave_21 (by decide) rfl rfl (Nat.le_of_ble_eq_true rfl) ⟨rfl, rfl⟩ ?_
      refine px_if_neB 29 dX5_leave_24 (by decide) (fun c24 => ?_) (fun c24 => ?_)
      · exact absurd ⟨of_decide_eq_true c5, of_decide_eq_true c15, of_decide_eq_true c24⟩ hx
      · refine px_iconst (v := -1) dX5_leave_27 (by decide) ?_
        exact px_iret dX5_leave_28 rfl rfl rfl ⟨rfl, rfl⟩
set_option maxHeartbeats 4000000 in
set_option maxRecDepth 100000 in
theorem c_X5_leave {E : xE} {h : xHp} {z : Nat} {O : xO} (hOK : tOK (O.1.1 0)) (a c w : Nat) (ha : a < (O.1.1 0).2 0) (hc : c ≤ 10) (hw : w ≤ 1) : PMI E mX5_leave [.ref z, .int (nI a), .int (nI c), .int (nI w)] (RO E h z O) (tlv (O.1.1 0) a c w) (RO E h z O) := by
  have hm6 := hOK.1.1
  have hm4 := hOK.1.2.1
  have hb0 : 2 ^ (O.1.1 0).2 1 ≤ 16 := Nat.le_trans (Nat.pow_le_pow_right (by decide) hm4) (by decide)
  have hb1 : tways (O.1.1 0) a c (2 ^ (O.1.1 0).2 1) < 2 ^ 31 := by have := tways_le (T := (O.1.1 0)) (a := a) hc hm4 _ hb0; omega
  have hb2 : 10 ^ (O.1.1 0).2 1 < 2 ^ 31 := Nat.lt_of_le_of_lt (Nat.pow_le_pow_right (by decide) hm4) (by decide)
  refine pm_of [some (.ref z), some (.int (nI a)), some (.int (nI c)), some (.int (nI w)), none, none, none] (by decide +kernel) (Nat.le_of_ble_eq_true rfl) rfl ?_
  refine px_aload_n dX5_leave_0 rfl ?_
  refine px_iload_n dX5_leave_1 rfl ?_
  refine px_vi (M2 := mX5_isApprentice) (c_isA_y ha (by have := hOK.1.1; omega)) mw_X5_isApprentice wm_X5_isApprentice we_X5_isApprentice (Or.inl ml_X5_78) dX5_leave_2 (RO_obj) rfl (by decide) rfl rfl (Nat.le_of_ble_eq_true rfl) ⟨rfl, rfl⟩ ?_
  refine px_if_eqB 27 dX5_leave_5 (by decide) (fun c5 => ?_) (fun c5 => ?_)
  · cases c5
  · refine px_iload_n dX5_leave_8 rfl ?_
    refine px_iconst (v := nI 0) dX5_leave_9 (by decide) ?_
    refine px_bipush (v := nI 10) dX5_leave_10 (by decide) ?_
    refine px_si (c_X5_isWithin (nI c) (nI 0) (nI 10)) mw_X5_isWithin wt_X5_isWithin (Or.inl ml_X5_53) dX5_leave_12 (by decide) rfl rfl (Nat.le_of_ble_eq_true rfl) ⟨rfl, rfl⟩ ?_
    refine px_if_eqB 27 dX5_leave_15 (by decide) (fun c15 => ?_) (fun c15 => ?_)
    · rw [in_t (by omega) (by omega) (by decide)] at c15
      cases c15
    · refine px_iload_n dX5_leave_18 rfl ?_
      refine px_iconst (v := nI 0) dX5_leave_19 (by decide) ?_
      refine px_iconst (v := nI 1) dX5_leave_20 (by decide) ?_
      refine px_si (c_X5_isWithin (nI w) (nI 0) (nI 1)) mw_X5_isWithin wt_X5_isWithin (Or.inl ml_X5_53) dX5_leave_21 (by decide) rfl rfl (Nat.le_of_ble_eq_true rfl) ⟨rfl, rfl⟩ ?_
      refine px_if_neB 29 dX5_leave_24 (by decide) (fun c24 => ?_) (fun c24 => ?_)
      · refine px_aload_n dX5_leave_29 rfl ?_
        refine px_get xk_X5 0 dX5_leave_30 (Or.inl fl_X5_10) RO_obj (by decide) rfl ?_
        refine px_iload_n dX5_leave_33 rfl ?_
        refine px_iload_n dX5_leave_34 rfl ?_
        refine px_vi (M2 := mX4_waysRobbed) (on0r (c_X4_waysRobbed hOK a c (by omega) hc)) mw_X4_waysRobbed wm_X4_waysRobbed we_X4_waysRobbed (Or.inr ⟨_, ml_X5_207⟩) dX5_leave_35 (ro_o0) rfl (by decide) rfl rfl (Nat.le_of_ble_eq_true rfl) ⟨rfl, rfl⟩ ?_
        refine px_ist_4 dX5_leave_38 (by decide) rfl ?_
        refine px_bipush (v := nI 10) dX5_leave_40 (by decide) ?_
        refine px_aload_n dX5_leave_42 rfl ?_
        refine px_get xk_X5 0 dX5_leave_43 (Or.inl fl_X5_10) RO_obj (by decide) rfl ?_
        refine px_heap ro_t0a.symm ?_
        refine px_tS 1 dX5_leave_46 (Or.inr ⟨_, fl_X5_68⟩) (by decide) ?_
        refine px_heap ro_t0a ?_
        refine px_si (c_X5_power 10 ((O.1.1 0).2 1) hOK.1.2.1) mw_X5_power wt_X5_power (Or.inl ml_X5_210) dX5_leave_49 (by decide) rfl rfl (Nat.le_of_ble_eq_true rfl) ⟨rfl, rfl⟩ ?_
        refine px_ist_5 dX5_leave_52 (by decide) rfl ?_
        refine px_iconst (v := nI 0) dX5_leave_54 (by decide) ?_
        refine px_ist_6 dX5_leave_55 (by decide) rfl ?_
        exact l_X5_leave hw 4 _ _ 0 rfl hb1 hb2 rfl
      · rw [in_t (by omega) (by omega) (by decide)] at c24
        cases c24
/-! town -/
def okt (O : xO) : Bool × xT × Nat := ktown O.2.2.1.1 O.2.2.1.2.1 (O.1.1 3)
def otn (O : xO) : xO := oK (oT O 3 (okt O).2.1) (O.2.2.1.1, 0, (okt O).2.2)
def oty (O : xO) : xO := oP (oT (oT (otn O) 3 (tSS (okt O).2.1 6 ((O.1.1 0).2 6))) 0 (tSS (okt O).2.1 6 ((O.1.1 0).2 6))) 0 ((O.1.2 0).1, (O.1.2 0).2.1, 0)
theorem c_kt {E : xE} {h : xHp} {z : Nat} {O : xO} (hz : O.2.2.1.2.1 ≤ 80) (hL : ∀ i, O.2.2.1.1 i ≤ 126) (hOK : tOK (O.1.1 3)) : PMI E mX3_readTown [.ref (z + 139), .ref (z + 141)] (RO E h z O) (bI (okt O).1) (RO E h z (oK (oT O 3 (okt O).2.1) (O.2.2.1.1, O.2.2.1.2.1, (okt O).2.2))) := by
  have := c_X3_readTown (E := E) (h := RO E h z O) (bk := z + 139) (bw := z + 141) (L := O.2.2.1.1) (sz := O.2.2.1.2.1) (by omega) hz hL (p := O.2.2.1.2.2) hOK
  rw [ro_t3a, ro_t3] at this
  have e1 : KH E (RO E h z O) (z + 139) (O.2.2.1.1, O.2.2.1.2.1, O.2.2.1.2.2) = RO E h z O := ro_ka
  rw [e1, ro_k] at this
  exact this
theorem c_r3 {E : xE} {h : xHp} {z : Nat} {O : xO} : PMV E mX4_become [.ref (z + 1), .ref (z + 141)] (RO E h z O) (RO E h z (oT O 0 (O.1.1 3))) := by
  have := c_bec (E := E) (h := RO E h z O) (b := z + 1) (bn := z + 141) (T := O.1.1 0) (Tn := O.1.1 3) ro_t3a ro_t0a (by omega)
  rw [ro_t0] at this
  exact this
set_option maxHeartbeats 4000000 in
set_option maxRecDepth 100000 in
theorem c_X5_town_n {E : xE} {h : xHp} {z : Nat} {O : xO} (hz : O.2.2.1.2.1 ≤ 80) (hL : ∀ i, O.2.2.1.1 i ≤ 126) (hOK : tOK (O.1.1 3)) (hk : (okt O).1 = false) : PMI E mX5_town [.ref z] (RO E h z O) (-20 - nI (okt O).2.2) (RO E h z (otn O)) := by
  refine pm_of [some (.ref z), none, none] (by decide +kernel) (Nat.le_of_ble_eq_true rfl) rfl ?_
  refine px_aload_n dX5_town_0 rfl ?_
  refine px_get xk_X5 6 dX5_town_1 (Or.inl fl_X5_39) RO_obj (by decide) rfl ?_
  refine px_aload_n dX5_town_4 rfl ?_
  refine px_get xk_X5 7 dX5_town_5 (Or.inl fl_X5_43) RO_obj (by decide) rfl ?_
  refine px_vi (M2 := mX3_readTown) (c_kt hz hL hOK) mw_X3_readTown wm_X3_readTown we_X3_readTown (Or.inr ⟨_, ml_X5_127⟩) dX5_town_8 (ro_ko) rfl (by decide) rfl rfl (Nat.le_of_ble_eq_true rfl) ⟨rfl, rfl⟩ ?_
  refine px_istn_1 dX5_town_11 (by decide) rfl ?_
  refine px_bipush (v := -20) dX5_town_12 (by decide) ?_
  refine px_aload_n dX5_town_14 rfl ?_
  refine px_get xk_X5 6 dX5_town_15 (Or.inl fl_X5_39) RO_obj (by decide) rfl ?_
  refine px_heap ro_ka.symm ?_
  refine px_kP dX5_town_18 (Or.inr ⟨_, fl_X5_131⟩) ?_
  refine px_heap ro_ka ?_
  refine px_isub dX5_town_21 ?_
  refine px_istn_2 dX5_town_22 (by decide) rfl ?_
  refine px_aload_n dX5_town_23 rfl ?_
  refine px_get xk_X5 6 dX5_town_24 (Or.inl fl_X5_39) RO_obj (by decide) rfl ?_
  refine px_vv (M2 := mX3_clear) (onkv c_X3_clear) mw_X3_clear wm_X3_clear we_X3_clear (Or.inr ⟨_, ml_X5_134⟩) dX5_town_27 (ro_ko) rfl (by decide) rfl rfl (Nat.le_of_ble_eq_true rfl) ⟨rfl, rfl⟩ ?_
  refine px_iload_n dX5_town_30 rfl ?_
  refine px_if_neB 36 dX5_town_31 (by decide) (fun c31 => ?_) (fun c31 => ?_)
  · rw [hk] at c31
    cases c31
  · refine px_iload_n dX5_town_34 rfl ?_
    exact px_iret dX5_town_35 rfl rfl rfl ⟨rfl, rfl⟩
set_option maxHeartbeats 4000000 in
set_option maxRecDepth 100000 in
theorem c_X5_town {E : xE} {h : xHp} {z : Nat} {O : xO} (hz : O.2.2.1.2.1 ≤ 80) (hL : ∀ i, O.2.2.1.1 i ≤ 126) (hOK : tOK (O.1.1 3)) (hk : (okt O).1 = true) : PMI E mX5_town [.ref z] (RO E h z O) (nI ((okt O).2.1.2 0)) (RO E h z (oty O)) := by
  refine pm_of [some (.ref z), none, none] (by decide +kernel) (Nat.le_of_ble_eq_true rfl) rfl ?_
  refine px_aload_n dX5_town_0 rfl ?_
  refine px_get xk_X5 6 dX5_town_1 (Or.inl fl_X5_39) RO_obj (by decide) rfl ?_
  refine px_aload_n dX5_town_4 rfl ?_
  refine px_get xk_X5 7 dX5_town_5 (Or.inl fl_X5_43) RO_obj (by decide) rfl ?_
  refine px_vi (M2 := mX3_readTown) (c_kt hz hL hOK) mw_X3_readTown wm_X3_readTown we_X3_readTown (Or.inr ⟨_, ml_X5_127⟩) dX5_town_8 (ro_ko) rfl (by decide) rfl rfl (Nat.le_of_ble_eq_true rfl) ⟨rfl, rfl⟩ ?_
  refine px_istn_1 dX5_town_11 (by decide) rfl ?_
  refine px_bipush (v := -20) dX5_town_12 (by decide) ?_
  refine px_aload_n dX5_town_14 rfl ?_
  refine px_get xk_X5 6 dX5_town_15 (Or.inl fl_X5_39) RO_obj (by decide) rfl ?_
  refine px_heap ro_ka.symm ?_
  refine px_kP dX5_town_18 (Or.inr ⟨_, fl_X5_131⟩) ?_
  refine px_heap ro_ka ?_
  refine px_isub dX5_town_21 ?_
  refine px_istn_2 dX5_town_22 (by decide) rfl ?_
  refine px_aload_n dX5_town_23 rfl ?_
  refine px_get xk_X5 6 dX5_town_24 (Or.inl fl_X5_39) RO_obj (by decide) rfl ?_
  refine px_vv (M2 := mX3_clear) (onkv c_X3_clear) mw_X3_clear wm_X3_clear we_X3_clear (Or.inr ⟨_, ml_X5_134⟩) dX5_town_27 (ro_ko) rfl (by decide) rfl rfl (Nat.le_of_ble_eq_true rfl) ⟨rfl, rfl⟩ ?_
  refine px_iload_n dX5_town_30 rfl ?_
  refine px_if_neB 36 dX5_town_31 (by decide) (fun c31 => ?_) (fun c31 => ?_)
  · refine px_aload_n dX5_town_36 rfl ?_
    refine px_get xk_X5 7 dX5_town_37 (Or.inl fl_X5_43) RO_obj (by decide) rfl ?_
    refine px_aload_n dX5_town_40 rfl ?_
    refine px_get xk_X5 0 dX5_town_41 (Or.inl fl_X5_10) RO_obj (by decide) rfl ?_
    refine px_heap ro_t0a.symm ?_
    refine px_tS 6 dX5_town_44 (Or.inr ⟨_, fl_X5_137⟩) (by decide) ?_
    refine px_heap ro_t0a ?_
    refine px_heap ro_t3a.symm ?_
    refine px_tP 6 dX5_town_47 (Or.inr ⟨_, fl_X5_137⟩) (by decide) ?_
    refine px_heap ro_t3 ?_
    refine px_aload_n dX5_town_50 rfl ?_
    refine px_get xk_X5 0 dX5_town_51 (Or.inl fl_X5_10) RO_obj (by decide) rfl ?_
    refine px_aload_n dX5_town_54 rfl ?_
    refine px_get xk_X5 7 dX5_town_55 (Or.inl fl_X5_43) RO_obj (by decide) rfl ?_
    refine px_vv (M2 := mX4_become) (c_r3) mw_X4_become wm_X4_become we_X4_become (Or.inr ⟨_, ml_X5_140⟩) dX5_town_58 (ro_o0) rfl (by decide) rfl rfl (Nat.le_of_ble_eq_true rfl) ⟨rfl, rfl⟩ ?_
    refine px_aload_n dX5_town_61 rfl ?_
    refine px_get xk_X5 1 dX5_town_62 (Or.inl fl_X5_19) RO_obj (by decide) rfl ?_
    refine px_vv (M2 := mX1_forget) (op0v c_X1_forget) mw_X1_forget wm_X1_forget we_X1_forget (Or.inr ⟨_, ml_X5_61⟩) dX5_town_65 (ro_q0) rfl (by decide) rfl rfl (Nat.le_of_ble_eq_true rfl) ⟨rfl, rfl⟩ ?_
    refine px_aload_n dX5_town_68 rfl ?_
    refine px_get xk_X5 0 dX5_town_69 (Or.inl fl_X5_10) RO_obj (by decide) rfl ?_
    refine px_heap ro_t0a.symm ?_
    refine px_tS 0 dX5_town_72 (Or.inr ⟨_, fl_X5_57⟩) (by decide) ?_
    refine px_heap ro_t0a ?_
    exact px_iret dX5_town_75 rfl rfl rfl ⟨rfl, rfl⟩
  · rw [hk] at c31
    cases c31
