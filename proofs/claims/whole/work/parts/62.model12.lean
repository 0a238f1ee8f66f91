/-! ===== staying at home ===== -/
def tod (c home : Nat) : Nat → Nat
  | 0 => 1
  | t + 1 => tod c home t * (if home.testBit t then c else 10 - c)
theorem tod_b (c s : Nat) : ∀ t, tod c s t = c ^ bcn s t * (10 - c) ^ (t - bcn s t) ∧ bcn s t ≤ t
  | 0 => ⟨rfl, Nat.le_refl _⟩
  | t + 1 => by
    obtain ⟨h1, h2⟩ := tod_b c s t
    rw [tod, h1, bcn, tb_div]
    by_cases hb : s / 2 ^ t % 2 = 1
    · rw [decide_eq_true hb, if_pos rfl, hb]
      refine ⟨?_, by omega⟩
      rw [show t + 1 - (bcn s t + 1) = t - bcn s t by omega, Nat.pow_succ, Nat.mul_right_comm]
    · have h0 : s / 2 ^ t % 2 = 0 := by omega
      rw [decide_eq_false hb, if_neg (by decide), h0, Nat.add_zero]
      refine ⟨?_, by omega⟩
      rw [show t + 1 - bcn s t = (t - bcn s t) + 1 by omega, Nat.pow_succ, Nat.mul_assoc]
theorem bcn_16 : ∀ k : Fin 5, ∀ s : Fin 16, s.1 < 2 ^ k.1 → bcn s.1 k.1 = bc s.1 := by decide +kernel
theorem pow16 {k : Nat} (hk : k ≤ 4) : 2 ^ k ≤ 16 := pow_thv hk
theorem tod_eq {c s k : Nat} (hk : k ≤ 4) (hs : s < 2 ^ k) : tod c s k = c ^ bc s * (10 - c) ^ (k - bc s) := by
  have := pow16 hk
  rw [(tod_b c s k).1, bcn_16 ⟨k, by omega⟩ ⟨s, by omega⟩ hs]
def tall (c k : Nat) : Nat → Nat
  | 0 => 0
  | s + 1 => tall c k s + c ^ bc s * (10 - c) ^ (k - bc s)
theorem tall_e : ∀ c : Fin 11, ∀ k : Fin 5, tall c.1 k.1 (2 ^ k.1) = 10 ^ k.1 := by decide +kernel
theorem tways_all {T : xT} {a c : Nat} : ∀ s, tways T a c s ≤ tall c (T.2 1) s
  | 0 => Nat.le_refl _
  | s + 1 => by
    have := tways_all (T := T) (a := a) (c := c) s
    rw [tways, tall]
    split
    · omega
    · omega
theorem tways_10 {T : xT} {a c : Nat} (hc : c ≤ 10) (hk : T.2 1 ≤ 4) : tways T a c (2 ^ T.2 1) ≤ 10 ^ T.2 1 := by
  have h1 := tways_all (T := T) (a := a) (c := c) (2 ^ T.2 1)
  rw [tall_e ⟨c, by omega⟩ ⟨T.2 1, by omega⟩] at h1
  exact h1
def lvq (k u : Nat) : Bool := decide (10 ^ k < u) || (decide ((lvit 4 (u, 10 ^ k)).1 = u / Nat.gcd u (10 ^ k)) && decide ((lvit 4 (u, 10 ^ k)).2 = 10 ^ k / Nat.gcd u (10 ^ k)))
theorem lvq_0 : ((List.range 101).all fun i => (List.range 100).all fun j => lvq 0 (100 * i + j)) = true := by decide +kernel
theorem lvq_1 : ((List.range 101).all fun i => (List.range 100).all fun j => lvq 1 (100 * i + j)) = true := by decide +kernel
theorem lvq_2 : ((List.range 101).all fun i => (List.range 100).all fun j => lvq 2 (100 * i + j)) = true := by decide +kernel
theorem lvq_3 : ((List.range 101).all fun i => (List.range 100).all fun j => lvq 3 (100 * i + j)) = true := by decide +kernel
theorem lvq_4 : ((List.range 101).all fun i => (List.range 100).all fun j => lvq 4 (100 * i + j)) = true := by decide +kernel
theorem lvq_u {k : Nat} (h : ((List.range 101).all fun i => (List.range 100).all fun j => lvq k (100 * i + j)) = true) {u : Nat} (hu : u ≤ 10000) : lvq k u = true := by
  have h1 := List.all_eq_true.mp h (u / 100) (List.mem_range.mpr (by omega))
  have h2 := List.all_eq_true.mp h1 (u % 100) (List.mem_range.mpr (by omega))
  rw [show 100 * (u / 100) + u % 100 = u by omega] at h2
  exact h2
theorem lvq_k {k u : Nat} (hk : k ≤ 4) (hu : u ≤ 10000) : lvq k u = true := by
  have hh : k = 0 ∨ k = 1 ∨ k = 2 ∨ k = 3 ∨ k = 4 := by omega
  rcases hh with h | h | h | h | h <;> subst h
  · exact lvq_u lvq_0 hu
  · exact lvq_u lvq_1 hu
  · exact lvq_u lvq_2 hu
  · exact lvq_u lvq_3 hu
  · exact lvq_u lvq_4 hu
theorem ten4 {k : Nat} (hk : k ≤ 4) : 10 ^ k ≤ 10000 := Nat.pow_le_pow_right (n := 10) (by decide) hk
theorem lv_gcd {k u : Nat} (hk : k ≤ 4) (hu : u ≤ 10 ^ k) : (lvit 4 (u, 10 ^ k)).1 = u / Nat.gcd u (10 ^ k) ∧ (lvit 4 (u, 10 ^ k)).2 = 10 ^ k / Nat.gcd u (10 ^ k) := by
  have h := lvq_k (k := k) (u := u) hk (Nat.le_trans hu (ten4 hk))
  unfold lvq at h
  rw [decide_eq_false (Nat.not_lt.mpr hu), Bool.false_or, Bool.and_eq_true] at h
  exact ⟨of_decide_eq_true h.1, of_decide_eq_true h.2⟩
set_option maxHeartbeats 4000000 in
set_option maxRecDepth 100000 in
theorem l_X6_leave_173 {E : xE} {h : xHp} {w : Nat} {D : xMd} {O : xO} (hR : Rel O D) (a c u : Nat) (ha : a < (O.1.1 0).2 0) (hc : c ≤ 10) (hu : u ≤ 1) : ∀ (n x y : Nat), x < 2 ^ 31 → y < 2 ^ 31 → y ≤ n → Nat.gcd x y = Nat.gcd (tways (O.1.1 0) a c (2 ^ ((O.1.1 0).2 1))) (10 ^ ((O.1.1 0).2 1)) → PW E mX6_leave (fun v h1 => v = some (.int (tlv (O.1.1 0) a c u)) ∧ ∃ D', Rel O D' ∧ h1 = MH E h w D') 0 0 173 [some (.ref w), some (.int (nI a)), some (.int (nI c)), some (.int (nI u)), some (.int (nI ((tways (O.1.1 0) a c (2 ^ ((O.1.1 0).2 1)))))), some (.int (nI (10 ^ ((O.1.1 0).2 1)))), some (.int (nI (x))), some (.int (nI (y))), none] [] (MH E h w D) := by
  have R := hR.1.1
  have hOK := hR.1.2.1.1
  have hm6 := hOK.1.1
  have hm4 := hOK.1.2.1
  have hN9 := hR.1.2.1.2
  have hb2 := ten4 hm4
  have hb1 := tways_10 (T := O.1.1 0) (a := a) hc hm4
  intro n
  induction n with
  | zero =>
    intro x y hx hy hyn hxy
    refine px_iload dX6_leave_173 rfl ?_
    refine px_if_leN 196 dX6_leave_175 (by decide) (by omega) (fun c175 => ?_) (fun c175 => ?_)
    · subst c175
      have hg : x = Nat.gcd (tways (O.1.1 0) a c (2 ^ ((O.1.1 0).2 1))) (10 ^ ((O.1.1 0).2 1)) := by rw [← hxy, Nat.gcd_zero_right]
      have hgp : 0 < x := by rw [hg]; exact Nat.gcd_pos_of_pos_right _ (Nat.pow_pos (by decide))
      have hlv := lv_gcd hm4 (tways_10 (T := O.1.1 0) (a := a) hc hm4)
      refine px_iload_n dX6_leave_196 rfl ?_
      refine px_if_neN 205 dX6_leave_197 (by decide) (by omega) (fun c197 => ?_) (fun c197 => ?_)
      · refine px_iload dX6_leave_205 rfl ?_
        refine px_iload dX6_leave_207 rfl ?_
        refine px_idivN dX6_leave_209 (by omega) (by omega) (by omega) ?_
        exact px_iret dX6_leave_210 rfl rfl rfl ⟨(by unfold tlv; rw [if_neg c197, hlv.2, ← hg]), D, hR, rfl⟩
      · refine px_iload dX6_leave_200 rfl ?_
        refine px_goto 207 dX6_leave_202 (by decide) ?_
        refine px_iload dX6_leave_207 rfl ?_
        refine px_idivN dX6_leave_209 (by omega) (by omega) (by omega) ?_
        exact px_iret dX6_leave_210 rfl rfl rfl ⟨(by unfold tlv; rw [if_pos c197, hlv.1, ← hg]), D, hR, rfl⟩
    · omega
  | succ n ih =>
    intro x y hx hy hyn hxy
    refine px_iload dX6_leave_173 rfl ?_
    refine px_if_leN 196 dX6_leave_175 (by decide) (by omega) (fun c175 => ?_) (fun c175 => ?_)
    · subst c175
      have hg : x = Nat.gcd (tways (O.1.1 0) a c (2 ^ ((O.1.1 0).2 1))) (10 ^ ((O.1.1 0).2 1)) := by rw [← hxy, Nat.gcd_zero_right]
      have hgp : 0 < x := by rw [hg]; exact Nat.gcd_pos_of_pos_right _ (Nat.pow_pos (by decide))
      have hlv := lv_gcd hm4 (tways_10 (T := O.1.1 0) (a := a) hc hm4)
      refine px_iload_n dX6_leave_196 rfl ?_
      refine px_if_neN 205 dX6_leave_197 (by decide) (by omega) (fun c197 => ?_) (fun c197 => ?_)
      · refine px_iload dX6_leave_205 rfl ?_
        refine px_iload dX6_leave_207 rfl ?_
        refine px_idivN dX6_leave_209 (by omega) (by omega) (by omega) ?_
        exact px_iret dX6_leave_210 rfl rfl rfl ⟨(by unfold tlv; rw [if_neg c197, hlv.2, ← hg]), D, hR, rfl⟩
      · refine px_iload dX6_leave_200 rfl ?_
        refine px_goto 207 dX6_leave_202 (by decide) ?_
        refine px_iload dX6_leave_207 rfl ?_
        refine px_idivN dX6_leave_209 (by omega) (by omega) (by omega) ?_
        exact px_iret dX6_leave_210 rfl rfl rfl ⟨(by unfold tlv; rw [if_pos c197, hlv.1, ← hg]), D, hR, rfl⟩
    · have hlt := Nat.mod_lt x c175
      refine px_iload dX6_leave_178 rfl ?_
      refine px_iload dX6_leave_180 rfl ?_
      refine px_iremN dX6_leave_182 (by omega) (by omega) (by omega) ?_
      refine px_ist_8 dX6_leave_183 (by decide) rfl ?_
      refine px_iload dX6_leave_185 rfl ?_
      refine px_ist_6 dX6_leave_187 (by decide) rfl ?_
      refine px_iload dX6_leave_189 rfl ?_
      refine px_ist_7 dX6_leave_191 (by decide) rfl ?_
      refine px_goto 173 dX6_leave_193 (by decide) ?_
      refine px_fg_8 ?_
      exact ih y (x % y) (by omega) (by omega) (by omega) (by rw [← hxy, Nat.gcd_comm x y, Nat.gcd_rec y x, Nat.gcd_comm])
set_option maxHeartbeats 4000000 in
set_option maxRecDepth 100000 in
theorem l_X6_leave_86 {E : xE} {h : xHp} {w : Nat} {D : xMd} {O : xO} (hR : Rel O D) {Q : Option Value → xHp → Prop} (a c u y4 y5 i : Nat) (hc : c ≤ 10) (hi : i < 16) (kk : PW E mX6_leave Q 0 0 127 [some (.ref w), some (.int (nI a)), some (.int (nI c)), some (.int (nI u)), some (.int (nI (y4))), some (.int (nI (y5))), some (.int (nI (i))), some (.int (nI (tod c i ((O.1.1 0).2 1)))), some (.int (nI (((O.1.1 0).2 1))))] [] (MH E h w D)) : ∀ (n t : Nat), t ≤ ((O.1.1 0).2 1) → ((O.1.1 0).2 1) + 1 ≤ t + n → PW E mX6_leave Q 0 0 86 [some (.ref w), some (.int (nI a)), some (.int (nI c)), some (.int (nI u)), some (.int (nI (y4))), some (.int (nI (y5))), some (.int (nI (i))), some (.int (nI (tod c i t))), some (.int (nI (t)))] [] (MH E h w D) := by
  have R := hR.1.1
  have hOK := hR.1.2.1.1
  have hm6 := hOK.1.1
  have hm4 := hOK.1.2.1
  have hN9 := hR.1.2.1.2
  intro n
  induction n with
  | zero =>
    intro t h1 h2
    omega
  | succ n ih =>
    intro t h1 h2
    refine px_iload dX6_leave_86 rfl ?_
    refine px_aload_n dX6_leave_88 rfl ?_
    refine px_get xk_X6 7 dX6_leave_89 (Or.inl fl_X6_23) MH_obj (by decide) rfl ?_
    refine px_bipush (v := nI 30) dX6_leave_92 (by decide) ?_
    refine px_bL (b := 0) rfl dX6_leave_94 (by decide) (by omega) (R.th) ?_
    refine px_icmp_geN 127 dX6_leave_95 (by decide) (by omega) (by omega) (fun c95 => ?_) (fun c95 => ?_)
    · have hi : t = ((O.1.1 0).2 1) := by omega
      subst hi
      exact kk
    · refine px_iload dX6_leave_98 rfl ?_
      refine px_iload dX6_leave_100 rfl ?_
      refine px_iload dX6_leave_102 rfl ?_
      refine px_si (c_X6_has_n i t (by omega) (by omega)) mw_X6_has wt_X6_has (Or.inl ml_X6_50) dX6_leave_104 (by decide) rfl rfl (Nat.le_of_ble_eq_true rfl) ⟨rfl, rfl⟩ ?_
      refine px_if_eqB 114 dX6_leave_107 (by decide) (fun c107 => ?_) (fun c107 => ?_)
      · refine px_bipush (v := nI 10) dX6_leave_114 (by decide) ?_
        refine px_iload_n dX6_leave_116 rfl ?_
        refine px_isubN dX6_leave_117 (by omega) ?_
        refine px_imulN dX6_leave_118 ?_
        refine px_ist_7 dX6_leave_119 (by decide) rfl ?_
        refine px_inc_8 dX6_leave_121 rfl (nI_1 _) (by decide) rfl ?_
        refine px_goto 86 dX6_leave_124 (by decide) ?_
        refine px_eq (lo2 := [some (.ref w), some (.int (nI a)), some (.int (nI c)), some (.int (nI u)), some (.int (nI (y4))), some (.int (nI (y5))), some (.int (nI (i))), some (.int (nI (tod c i (t + 1)))), some (.int (nI (t + 1)))]) ?_ rfl rfl (ih (t + 1) (by omega) (by omega))
        rw [tod, c107]
        rfl
      · refine px_iload_n dX6_leave_110 rfl ?_
        refine px_goto 118 dX6_leave_111 (by decide) ?_
        refine px_imulN dX6_leave_118 ?_
        refine px_ist_7 dX6_leave_119 (by decide) rfl ?_
        refine px_inc_8 dX6_leave_121 rfl (nI_1 _) (by decide) rfl ?_
        refine px_goto 86 dX6_leave_124 (by decide) ?_
        refine px_eq (lo2 := [some (.ref w), some (.int (nI a)), some (.int (nI c)), some (.int (nI u)), some (.int (nI (y4))), some (.int (nI (y5))), some (.int (nI (i))), some (.int (nI (tod c i (t + 1)))), some (.int (nI (t + 1)))]) ?_ rfl rfl (ih (t + 1) (by omega) (by omega))
        rw [tod, c107]
        rfl
set_option maxHeartbeats 4000000 in
set_option maxRecDepth 100000 in
theorem l_X6_leave_66 {E : xE} {h : xHp} {w : Nat} {O : xO} (a c u : Nat) (ha : a < (O.1.1 0).2 0) (hc : c ≤ 10) (hu : u ≤ 1) : ∀ (n i : Nat) (D : xMd), i ≤ 2 ^ ((O.1.1 0).2 1) → 2 ^ ((O.1.1 0).2 1) + 1 ≤ i + n → Rel O D → PW E mX6_leave (fun v h1 => v = some (.int (tlv (O.1.1 0) a c u)) ∧ ∃ D', Rel O D' ∧ h1 = MH E h w D') 0 0 66 [some (.ref w), some (.int (nI a)), some (.int (nI c)), some (.int (nI u)), some (.int (nI ((tways (O.1.1 0) a c (i))))), some (.int (nI (10 ^ ((O.1.1 0).2 1)))), some (.int (nI (i))), none, none] [] (MH E h w D) := by
  intro n
  induction n with
  | zero =>
    intro i D h1 h2 hR
    omega
  | succ n ih =>
    intro i D h1 h2 hR
    have R := hR.1.1
    have hOK := hR.1.2.1.1
    have hm6 := hOK.1.1
    have hm4 := hOK.1.2.1
    have hN9 := hR.1.2.1.2
    have hb2 := ten4 hm4
    have hb1 := tways_10 (T := O.1.1 0) (a := a) hc hm4
    have hp16 := pow16 hm4
    refine px_iload dX6_leave_66 rfl ?_
    refine px_iconst (v := nI 1) dX6_leave_68 (by decide) ?_
    refine px_aload_n dX6_leave_69 rfl ?_
    refine px_get xk_X6 7 dX6_leave_70 (Or.inl fl_X6_23) MH_obj (by decide) rfl ?_
    refine px_bipush (v := nI 30) dX6_leave_73 (by decide) ?_
    refine px_bL (b := 0) rfl dX6_leave_75 (by decide) (by omega) (R.th) ?_
    refine px_ishl1 dX6_leave_76 (by omega) ?_
    refine px_icmp_geN 165 dX6_leave_77 (by decide) (by omega) (by omega) (fun c77 => ?_) (fun c77 => ?_)
    · have hi : i = 2 ^ ((O.1.1 0).2 1) := by omega
      subst hi
      refine px_iload dX6_leave_165 rfl ?_
      refine px_ist_6 dX6_leave_167 (by decide) rfl ?_
      refine px_iload dX6_leave_169 rfl ?_
      refine px_ist_7 dX6_leave_171 (by decide) rfl ?_
      exact l_X6_leave_173 hR a c u ha hc hu (10 ^ ((O.1.1 0).2 1)) _ _ (by omega) (by omega) (Nat.le_refl _) rfl
    · refine px_iconst (v := nI 1) dX6_leave_80 (by decide) ?_
      refine px_ist_7 dX6_leave_81 (by decide) rfl ?_
      refine px_iconst (v := nI 0) dX6_leave_83 (by decide) ?_
      refine px_ist_8 dX6_leave_84 (by decide) rfl ?_
      refine l_X6_leave_86 hR a c u _ _ i hc (by omega) ?_ (((O.1.1 0).2 1) + 1) 0 (Nat.zero_le _) (by omega)
      refine px_aload_n dX6_leave_127 rfl ?_
      refine px_callV (M2 := mX6_begin) (c_X6_begin hR) mw_X6_begin wm_X6_begin we_X6_begin (Or.inl ml_X6_141) dX6_leave_128 MH_obj rfl (by decide) rfl rfl (Nat.le_of_ble_eq_true rfl) ⟨Nat.zero_le _, Nat.zero_le _⟩ (fun v h2 hq => ?_)
      obtain ⟨rfl, D1, hI1, rfl⟩ := hq
      refine px_iload dX6_leave_131 rfl ?_
      refine px_aload_n dX6_leave_133 rfl ?_
      refine px_aload_n dX6_leave_134 rfl ?_
      refine px_get xk_X6 8 dX6_leave_135 (Or.inl fl_X6_26) MH_obj (by decide) rfl ?_
      refine px_iload dX6_leave_138 rfl ?_
      refine px_callV (M2 := mX6_robIn) (c_robT hI1 (nI i) (fun q => i.testBit q) (hbit_s (by omega))) mw_X6_robIn wm_X6_robIn we_X6_robIn (Or.inl ml_X6_115) dX6_leave_140 MH_obj rfl (by decide) rfl rfl (Nat.le_of_ble_eq_true rfl) ⟨Nat.zero_le _, Nat.zero_le _⟩ (fun v h2 hq => ?_)
      obtain ⟨rfl, D2, ⟨hR2, hP⟩, rfl⟩ := hq
      refine px_iload_n dX6_leave_143 rfl ?_
      refine px_si (c_X6_has_n (trob (O.1.1 0) (fun q => i.testBit q) ((O.1.1 0).2 1)) a (by have := trob_lt (T := (O.1.1 0)) (hm := fun q => i.testBit q) hm6 ((O.1.1 0).2 1); omega) (by omega)) mw_X6_has wt_X6_has (Or.inl ml_X6_50) dX6_leave_144 (by decide) rfl rfl (Nat.le_of_ble_eq_true rfl) ⟨rfl, rfl⟩ ?_
      refine px_if_eqB 155 dX6_leave_147 (by decide) (fun c147 => ?_) (fun c147 => ?_)
      · refine px_iconst (v := nI 0) dX6_leave_155 (by decide) ?_
        refine px_iaddN dX6_leave_156 ?_
        refine px_ist_4 dX6_leave_157 (by decide) rfl ?_
        refine px_inc_6 dX6_leave_159 rfl (nI_1 _) (by decide) rfl ?_
        refine px_goto 66 dX6_leave_162 (by decide) ?_
        refine px_fg_8 ?_
        refine px_fg_7 ?_
        refine px_eq (lo2 := [some (.ref w), some (.int (nI a)), some (.int (nI c)), some (.int (nI u)), some (.int (nI ((tways (O.1.1 0) a c (i + 1))))), some (.int (nI (10 ^ ((O.1.1 0).2 1)))), some (.int (nI (i + 1))), none, none]) ?_ rfl rfl (ih (i + 1) D2 (by omega) (by omega) hR2)
        rw [tways, if_neg (by rw [c147]; decide)]
        rfl
      · refine px_iload dX6_leave_150 rfl ?_
        refine px_goto 156 dX6_leave_152 (by decide) ?_
        refine px_iaddN dX6_leave_156 ?_
        refine px_ist_4 dX6_leave_157 (by decide) rfl ?_
        refine px_inc_6 dX6_leave_159 rfl (nI_1 _) (by decide) rfl ?_
        refine px_goto 66 dX6_leave_162 (by decide) ?_
        refine px_fg_8 ?_
        refine px_fg_7 ?_
        refine px_eq (lo2 := [some (.ref w), some (.int (nI a)), some (.int (nI c)), some (.int (nI u)), some (.int (nI ((tways (O.1.1 0) a c (i + 1))))), some (.int (nI (10 ^ ((O.1.1 0).2 1)))), some (.int (nI (i + 1))), none, none]) ?_ rfl rfl (ih (i + 1) D2 (by omega) (by omega) hR2)
        rw [tways, if_pos c147, tod_eq hm4 c77]
set_option maxHeartbeats 4000000 in
set_option maxRecDepth 100000 in
theorem l_X6_leave_38 {E : xE} {h : xHp} {w : Nat} {D : xMd} {O : xO} (hR : Rel O D) (a c u : Nat) (ha : a < (O.1.1 0).2 0) (hc : c ≤ 10) (hu : u ≤ 1) : ∀ (n i : Nat), i ≤ ((O.1.1 0).2 1) → ((O.1.1 0).2 1) + 1 ≤ i + n → PW E mX6_leave (fun v h1 => v = some (.int (tlv (O.1.1 0) a c u)) ∧ ∃ D', Rel O D' ∧ h1 = MH E h w D') 0 0 38 [some (.ref w), some (.int (nI a)), some (.int (nI c)), some (.int (nI u)), some (.int (nI (0))), some (.int (nI (10 ^ i))), some (.int (nI (i))), none, none] [] (MH E h w D) := by
  have R := hR.1.1
  have hOK := hR.1.2.1.1
  have hm6 := hOK.1.1
  have hm4 := hOK.1.2.1
  have hN9 := hR.1.2.1.2
  intro n
  induction n with
  | zero =>
    intro i h1 h2
    omega
  | succ n ih =>
    intro i h1 h2
    refine px_iload dX6_leave_38 rfl ?_
    refine px_aload_n dX6_leave_40 rfl ?_
    refine px_get xk_X6 7 dX6_leave_41 (Or.inl fl_X6_23) MH_obj (by decide) rfl ?_
    refine px_bipush (v := nI 30) dX6_leave_44 (by decide) ?_
    refine px_bL (b := 0) rfl dX6_leave_46 (by decide) (by omega) (R.th) ?_
    refine px_icmp_geN 63 dX6_leave_47 (by decide) (by omega) (by omega) (fun c47 => ?_) (fun c47 => ?_)
    · refine px_iconst (v := nI 0) dX6_leave_63 (by decide) ?_
      refine px_ist_6 dX6_leave_64 (by decide) rfl ?_
      have hi : i = ((O.1.1 0).2 1) := by omega
      subst hi
      exact l_X6_leave_66 a c u ha hc hu (2 ^ ((O.1.1 0).2 1) + 1) 0 D (Nat.zero_le _) (by omega) hR
    · refine px_iload dX6_leave_50 rfl ?_
      refine px_bipush (v := nI 10) dX6_leave_52 (by decide) ?_
      refine px_imulN dX6_leave_54 ?_
      refine px_ist_5 dX6_leave_55 (by decide) rfl ?_
      refine px_inc_6 dX6_leave_57 rfl (nI_1 _) (by decide) rfl ?_
      refine px_goto 38 dX6_leave_60 (by decide) ?_
      refine px_eq (lo2 := [some (.ref w), some (.int (nI a)), some (.int (nI c)), some (.int (nI u)), some (.int (nI (0))), some (.int (nI (10 ^ (i + 1)))), some (.int (nI (i + 1))), none, none]) (by rw [Nat.pow_succ]) rfl rfl (ih (i + 1) (by omega) (by omega))
set_option maxHeartbeats 4000000 in
set_option maxRecDepth 100000 in
theorem c_X6_leave_n {E : xE} {h : xHp} {w : Nat} {D : xMd} {O : xO} (hR : Rel O D) (x y u : Int32) (hx : ¬ ((0 ≤ x ∧ x < nI ((O.1.1 0).2 0)) ∧ (nI 0 ≤ y ∧ y ≤ nI 10) ∧ (nI 0 ≤ u ∧ u ≤ nI 1))) : PMX E mX6_leave [.ref w, .int x, .int y, .int u] h w D (-1) O := by
  have R := hR.1.1
  have hOK := hR.1.2.1.1
  have hm6 := hOK.1.1
  have hm4 := hOK.1.2.1
  have hN9 := hR.1.2.1.2
  refine pm_of [some (.ref w), some (.int x), some (.int y), some (.int u), none, none, none, none, none] (by decide +kernel) (Nat.le_of_ble_eq_true rfl) rfl ?_
  refine px_aload_n dX6_leave_0 rfl ?_
  refine px_iload_n dX6_leave_1 rfl ?_
  refine px_vi (M2 := mX6_isOne) (c_X6_isOne R hOK x) mw_X6_isOne wm_X6_isOne we_X6_isOne (Or.inl ml_X6_58) dX6_leave_2 (MH_obj) rfl (by decide) rfl rfl (Nat.le_of_ble_eq_true rfl) ⟨rfl, rfl⟩ ?_
  refine px_if_eqB 27 dX6_leave_5 (by decide) (fun c5 => ?_) (fun c5 => ?_)
  · refine px_iconst (v := -1) dX6_leave_27 (by decide) ?_
    exact px_iret dX6_leave_28 rfl rfl rfl ⟨rfl, D, hR, rfl⟩
  · refine px_iload_n dX6_leave_8 rfl ?_
    refine px_iconst (v := nI 0) dX6_leave_9 (by decide) ?_
    refine px_bipush (v := nI 10) dX6_leave_10 (by decide) ?_
    refine px_si (c_X6_in (y) (nI 0) (nI 10)) mw_X6_in wt_X6_in (Or.inl ml_X6_38) dX6_leave_12 (by decide) rfl rfl (Nat.le_of_ble_eq_true rfl) ⟨rfl, rfl⟩ ?_
    refine px_if_eqB 27 dX6_leave_15 (by decide) (fun c15 => ?_) (fun c15 => ?_)
    · refine px_iconst (v := -1) dX6_leave_27 (by decide) ?_
      exact px_iret dX6_leave_28 rfl rfl rfl ⟨rfl, D, hR, rfl⟩
    · refine px_iload_n dX6_leave_18 rfl ?_
      refine px_iconst (v := nI 0) dX6_leave_19 (by decide) ?_
      refine px_iconst (v := nI 1) dX6_leave_20 (by decide) ?_
      refine px_si (c_X6_in (u) (nI 0) (nI 1)) mw_X6_in wt_X6_in (Or.inl ml_X6_38) dX6_leave_21 (by decide) rfl rfl (Nat.le_of_ble_eq_true rfl) ⟨rfl, rfl⟩ ?_
      refine px_if_neB 29 dX6_leave_24 (by decide) (fun c24 => ?_) (fun c24 => ?_)
      · exact absurd ⟨of_decide_eq_true c5, of_decide_eq_true c15, of_decide_eq_true c24⟩ hx
      · refine px_iconst (v := -1) dX6_leave_27 (by decide) ?_
        exact px_iret dX6_leave_28 rfl rfl rfl ⟨rfl, D, hR, rfl⟩
set_option maxHeartbeats 4000000 in
set_option maxRecDepth 100000 in
theorem c_X6_leave {E : xE} {h : xHp} {w : Nat} {D : xMd} {O : xO} (hR : Rel O D) (a c u : Nat) (ha : a < (O.1.1 0).2 0) (hc : c ≤ 10) (hu : u ≤ 1) : PMX E mX6_leave [.ref w, .int (nI a), .int (nI c), .int (nI u)] h w D (tlv (O.1.1 0) a c u) O := by
  have R := hR.1.1
  have hOK := hR.1.2.1.1
  have hm6 := hOK.1.1
  have hm4 := hOK.1.2.1
  have hN9 := hR.1.2.1.2
  refine pm_of [some (.ref w), some (.int (nI a)), some (.int (nI c)), some (.int (nI u)), none, none, none, none, none] (by decide +kernel) (Nat.le_of_ble_eq_true rfl) rfl ?_
  refine px_aload_n dX6_leave_0 rfl ?_
  refine px_iload_n dX6_leave_1 rfl ?_
  refine px_vi (M2 := mX6_isOne) (c_m1_y R hOK ha) mw_X6_isOne wm_X6_isOne we_X6_isOne (Or.inl ml_X6_58) dX6_leave_2 (MH_obj) rfl (by decide) rfl rfl (Nat.le_of_ble_eq_true rfl) ⟨rfl, rfl⟩ ?_
  refine px_if_eqB 27 dX6_leave_5 (by decide) (fun c5 => ?_) (fun c5 => ?_)
  · cases c5
  · refine px_iload_n dX6_leave_8 rfl ?_
    refine px_iconst (v := nI 0) dX6_leave_9 (by decide) ?_
    refine px_bipush (v := nI 10) dX6_leave_10 (by decide) ?_
    refine px_si (c_X6_in (nI c) (nI 0) (nI 10)) mw_X6_in wt_X6_in (Or.inl ml_X6_38) dX6_leave_12 (by decide) rfl rfl (Nat.le_of_ble_eq_true rfl) ⟨rfl, rfl⟩ ?_
    refine px_if_eqB 27 dX6_leave_15 (by decide) (fun c15 => ?_) (fun c15 => ?_)
    · rw [in_t (by omega) (by omega) (by decide)] at c15
      cases c15
    · refine px_iload_n dX6_leave_18 rfl ?_
      refine px_iconst (v := nI 0) dX6_leave_19 (by decide) ?_
      refine px_iconst (v := nI 1) dX6_leave_20 (by decide) ?_
      refine px_si (c_X6_in (nI u) (nI 0) (nI 1)) mw_X6_in wt_X6_in (Or.inl ml_X6_38) dX6_leave_21 (by decide) rfl rfl (Nat.le_of_ble_eq_true rfl) ⟨rfl, rfl⟩ ?_
      refine px_if_neB 29 dX6_leave_24 (by decide) (fun c24 => ?_) (fun c24 => ?_)
      · refine px_iconst (v := nI 0) dX6_leave_29 (by decide) ?_
        refine px_ist_4 dX6_leave_30 (by decide) rfl ?_
        refine px_iconst (v := nI 1) dX6_leave_32 (by decide) ?_
        refine px_ist_5 dX6_leave_33 (by decide) rfl ?_
        refine px_iconst (v := nI 0) dX6_leave_35 (by decide) ?_
        refine px_ist_6 dX6_leave_36 (by decide) rfl ?_
        exact l_X6_leave_38 hR a c u ha hc hu (((O.1.1 0).2 1) + 1) 0 (Nat.zero_le _) (by omega)
      · rw [in_t (by omega) (by omega) (by decide)] at c24
        cases c24
