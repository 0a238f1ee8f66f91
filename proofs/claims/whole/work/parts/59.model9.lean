/-! ===== the reference's sheets ===== -/
theorem in_3 (x : Int32) : decide (nI 0 ≤ x ∧ x ≤ nI 3) = decide (0 ≤ x ∧ x < nI 4) := by
  have h3 : (nI 3).toInt = 3 := by decide
  have h4 : (nI 4).toInt = 4 := by decide
  have e : (x ≤ nI 3) ↔ (x < nI 4) := by
    rw [Int32.le_iff_toInt_le, Int32.lt_iff_toInt_lt, h3, h4]
    omega
  have e0 : (nI 0 ≤ x ∧ x ≤ nI 3) ↔ (0 ≤ x ∧ x < nI 4) := by rw [e]; exact Iff.rfl
  exact decide_eq_decide.mpr e0
theorem c_X6_inL {E : xE} {h : xHp} (x : Int32) : PMI E mX6_in [.int x, .int (nI 0), .int (nI 3)] h (bI (decide (0 ≤ x ∧ x < nI 4))) h := by
  rw [← in_3]
  exact c_X6_in x (nI 0) (nI 3)
theorem sub_neg {z : Nat} {n i : Int32} (hz : z ≤ 24) (hn : nI z < n) (hi : 0 ≤ i) (q : i ≤ nI z - n) : False := by
  have h1 := Int32.lt_iff_toInt_lt.mp hn
  have e : (nI z).toInt = (z : Int) := nI_toInt (by omega)
  rw [e] at h1
  have h2 := Int32.le_iff_toInt_le.mp q
  have h3 := Int32.le_iff_toInt_le.mp hi
  have e0 : (0 : Int32).toInt = 0 := by decide
  rw [e0] at h3
  have h4 : n.toInt < 2 ^ 31 := Int32.toInt_lt n
  rw [Int32.toInt_sub, e, Int.bmod_def] at h2
  split at h2 <;> omega
theorem nI_m1n {b : Nat} (hb : b < 2 ^ 31) : nI b ≠ -1 := fun q => absurd (q ▸ nI_pos' hb : (0 : Int32) ≤ -1) (by decide)
theorem rs_n {D : xMd} {s : Nat} {S : xS} (h : RS D s S) (hn : S.2.1 ≠ -1) : ∃ l, l < 4 ∧ mLa D s = nI l ∧ S.2.1 = nI l ∧ mSz D s = S.2.2 := by
  rcases h.2.1 with q | ⟨l, h1, h2, h3⟩
  · exact absurd q hn
  · exact ⟨l, h1, h.1.trans h2, h2, h3⟩
theorem itm {O : xO} {D : xMd} {s f k : Nat} (hR : Rel O D) (hs : s < 4) (h : f + k < 24) : mIt D (24 * s + f + k) = (O.2.1 s).1 (f + k) := by
  rw [Nat.add_assoc]
  exact (hR.2.2.1 s hs).2.2.2.2 (f + k) h
theorem Rel.item {O : xO} {D : xMd} {s i : Nat} {v : Int64} (hR : Rel O D) (hs : s < 4) (hi : i < 24) : Rel (oS O s (vp_updL (O.2.1 s).1 i v, (O.2.1 s).2)) (sIt D (va_up (mIt D) (24 * s + i) v)) := by
  refine ⟨hR.1, hR.2.1, fun q hq => ?_, hR.2.2.2.1, hR.2.2.2.2⟩
  have h0 := hR.2.2.1 q hq
  show RS _ q (va_up O.2.1 s _ q)
  by_cases hqs : q = s
  · subst hqs
    rw [va_up_self]
    refine ⟨h0.1, h0.2.1, h0.2.2.1, h0.2.2.2.1, fun j hj => ?_⟩
    show va_up (mIt D) (24 * q + i) v (24 * q + j) = vp_updL (O.2.1 q).1 i v j
    rw [updL_up]
    by_cases hj2 : j = i
    · subst hj2; rw [va_up_self, va_up_self]
    · rw [va_up_ne _ _ (by omega), va_up_ne _ _ hj2]
      exact h0.2.2.2.2 j hj
  · rw [va_up_ne _ _ hqs]
    refine ⟨h0.1, h0.2.1, h0.2.2.1, h0.2.2.2.1, fun j hj => ?_⟩
    show va_up (mIt D) (24 * s + i) v (24 * q + j) = (O.2.1 q).1 j
    rw [va_up_ne _ _ (by omega)]
    exact h0.2.2.2.2 j hj
theorem scut_d : ∀ d : Fin 100, (nI d.1).toInt64.toInt32.toInt8.toInt32.toInt64 = (nI d.1).toInt64 ∧ (nI d.1).toInt64.toInt32.toInt16.toInt32.toInt64 = (nI d.1).toInt64 ∧ (nI d.1).toInt64.toInt32.toInt64 = (nI d.1).toInt64 := by decide +kernel
theorem scut_99 {L : Int32} {d : Nat} (hd : d ≤ 99) : scut L (nI d).toInt64 = (nI d).toInt64 := by
  have h := scut_d ⟨d, by omega⟩
  unfold scut
  split
  · exact h.1
  · split
    · exact h.2.1
    · split
      · exact h.2.2
      · rfl
theorem film_step {O : xO} {D : xMd} {T : xT} {S : xS} {s a f i : Nat} (hR : Rel (oS O s (stell T a S f i)) D) (hs : s < 4) (hi : f + i < 24) (hd : (tnights T hm0 (i + 1)).1 2 a ≤ 99) : Rel (oS O s (stell T a S f (i + 1))) (sIt D (va_up (mIt D) (24 * s + f + i) (nI ((tnights T hm0 (i + 1)).1 2 a)).toInt64)) := by
  have h := hR.item (s := s) (i := f + i) (v := (nI ((tnights T hm0 (i + 1)).1 2 a)).toInt64) hs hi
  rw [oS_twice, ← Nat.add_assoc] at h
  have e : (oS O s (stell T a S f i)).2.1 s = stell T a S f i := va_up_self _ _ _
  rw [e] at h
  have e2 : stell T a S f (i + 1) = (vp_updL (stell T a S f i).1 (f + i) (nI ((tnights T hm0 (i + 1)).1 2 a)).toInt64, (stell T a S f i).2) := by
    rw [stell, sput, scut_99 hd]
  rw [e2]
  exact h
def itz (f : Nat → Int64) (s k : Nat) : Nat → Int64 := fun q => if 24 * s ≤ q ∧ q < 24 * s + k then 0 else f q
theorem itz_0 (f : Nat → Int64) (s : Nat) : itz f s 0 = f := by
  funext q
  unfold itz
  rw [if_neg (by omega)]
theorem itz_s (f : Nat → Int64) (s k : Nat) : va_up (itz f s k) (24 * s + k) (lN 0) = itz f s (k + 1) := by
  funext q
  by_cases hq : q = 24 * s + k
  · subst hq
    rw [va_up_self]
    unfold itz
    rw [if_pos (by omega)]
    rfl
  · rw [va_up_ne _ _ hq]
    unfold itz
    by_cases h1 : 24 * s ≤ q ∧ q < 24 * s + k
    · rw [if_pos h1, if_pos (by omega)]
    · rw [if_neg h1, if_neg (by omega)]
def shD (D : xMd) (s l k : Nat) : xMd := sSz (sLa D (va_up (mLa D) s (nI l))) (va_up (mSz D) s k)
theorem Rel.sheet {O : xO} {D : xMd} {s l k : Nat} (hR : Rel O D) (hs : s < 4) (hl : l < 4) (hk : k ≤ 24) : Rel (oS O s (szero 24 (O.2.1 s).1, nI l, k)) (sIt (shD D s l k) (itz (mIt D) s 24)) := by
  refine ⟨hR.1, hR.2.1, fun q hq => ?_, hR.2.2.2.1, hR.2.2.2.2⟩
  have h0 := hR.2.2.1 q hq
  show RS _ q (va_up O.2.1 s _ q)
  by_cases hqs : q = s
  · subst hqs
    rw [va_up_self]
    refine ⟨va_up_self _ _ _, Or.inr ⟨l, hl, rfl, va_up_self _ _ _⟩, hk, ?_, fun j hj => ?_⟩
    · show va_up (mSz D) q k q ≤ 24
      rw [va_up_self]; exact hk
    · show itz (mIt D) q 24 (24 * q + j) = szero 24 (O.2.1 q).1 j
      unfold itz szero
      rw [if_pos (by omega), if_pos hj]
  · rw [va_up_ne _ _ hqs]
    refine ⟨?_, ?_, h0.2.2.1, ?_, fun j hj => ?_⟩
    · show va_up (mLa D) s (nI l) q = _
      rw [va_up_ne _ _ hqs]; exact h0.1
    · show _ ∨ ∃ l', l' < 4 ∧ _ ∧ va_up (mSz D) s k q = _
      rw [va_up_ne _ _ hqs]; exact h0.2.1
    · show va_up (mSz D) s k q ≤ 24
      rw [va_up_ne _ _ hqs]; exact h0.2.2.2.1
    · show itz (mIt D) s 24 (24 * q + j) = _
      unfold itz
      rw [if_neg (by omega)]
      exact h0.2.2.2.2 j hj
theorem Rel.drop {O : xO} {D : xMd} {s : Nat} (hR : Rel O D) (hs : s < 4) : Rel (oS O s ((O.2.1 s).1, -1, 0)) (sLa D (va_up (mLa D) s (-1))) := by
  refine ⟨hR.1, hR.2.1, fun q hq => ?_, hR.2.2.2.1, hR.2.2.2.2⟩
  have h0 := hR.2.2.1 q hq
  show RS _ q (va_up O.2.1 s _ q)
  by_cases hqs : q = s
  · subst hqs
    rw [va_up_self]
    exact ⟨va_up_self _ _ _, Or.inl rfl, Nat.zero_le _, h0.2.2.2.1, h0.2.2.2.2⟩
  · rw [va_up_ne _ _ hqs]
    refine ⟨?_, h0.2.1, h0.2.2.1, h0.2.2.2.1, h0.2.2.2.2⟩
    show va_up (mLa D) s (-1) q = _
    rw [va_up_ne _ _ hqs]; exact h0.1
theorem cpyL_s {f : Nat → Int64} {a b i : Nat} : va_up (va_cpy f f a b i) (b + i) (f (a + i)) = va_cpy f f a b (i + 1) := by
  funext x
  by_cases hx : x = b + i
  · subst hx
    rw [va_up_self]
    unfold va_cpy
    rw [if_pos (by omega), show b + i - b = i by omega]
  · rw [va_up_ne _ _ hx]
    unfold va_cpy
    by_cases h1 : b ≤ x ∧ x < b + i
    · rw [if_pos h1, if_pos (by omega)]
    · rw [if_neg h1, if_neg (by omega)]
theorem cpyL_0 {f : Nat → Int64} {a b : Nat} : va_cpy f f a b 0 = f := by
  funext x
  unfold va_cpy
  rw [if_neg (by omega)]
theorem cpyL_out {f g : Nat → Int64} {i j q x : Nat} (h : x < j ∨ j + q ≤ x) : va_cpy f g i j q x = g x := by
  unfold va_cpy
  rw [if_neg (by omega)]
def cpyd (f : Nat → Int64) (a b n q : Nat) : Nat → Int64 := fun x => if b + (n - q) ≤ x ∧ x < b + n then f (a + (x - b)) else f x
theorem cpyd_0 {f : Nat → Int64} {a b n : Nat} : cpyd f a b n 0 = f := by
  funext x
  unfold cpyd
  rw [if_neg (by omega)]
theorem cpyd_n {f : Nat → Int64} {a b n : Nat} : cpyd f a b n n = va_cpy f f a b n := by
  funext x
  unfold cpyd va_cpy
  rw [show b + (n - n) = b by omega]
theorem cpyd_out {f : Nat → Int64} {a b n q x : Nat} (h : x < b + (n - q)) : cpyd f a b n q x = f x := by
  unfold cpyd
  rw [if_neg (by omega)]
theorem cpyd_s {f : Nat → Int64} {a b n q : Nat} (hq : q < n) : va_up (cpyd f a b n q) (b + (n - 1 - q)) (f (a + (n - 1 - q))) = cpyd f a b n (q + 1) := by
  funext x
  by_cases hx : x = b + (n - 1 - q)
  · subst hx
    rw [va_up_self]
    unfold cpyd
    rw [if_pos (by omega), show b + (n - 1 - q) - b = n - 1 - q by omega]
  · rw [va_up_ne _ _ hx]
    unfold cpyd
    by_cases h1 : b + (n - q) ≤ x ∧ x < b + n
    · rw [if_pos h1, if_pos (by omega)]
    · rw [if_neg h1, if_neg (by omega)]
theorem Rel.copy {O : xO} {D : xMd} {s t f g k : Nat} (hR : Rel O D) (hs : s < 4) (ht : t < 4) (hf : f + k ≤ 24) (hg : g + k ≤ 24) : Rel (oS O t (va_cpy (O.2.1 s).1 (O.2.1 t).1 f g k, (O.2.1 t).2)) (sIt D (va_cpy (mIt D) (mIt D) (24 * s + f) (24 * t + g) k)) := by
  refine ⟨hR.1, hR.2.1, fun q hq => ?_, hR.2.2.2.1, hR.2.2.2.2⟩
  have h0 := hR.2.2.1 q hq
  have hS := hR.2.2.1 s hs
  show RS _ q (va_up O.2.1 t _ q)
  by_cases hqs : q = t
  · subst hqs
    rw [va_up_self]
    refine ⟨h0.1, h0.2.1, h0.2.2.1, h0.2.2.2.1, fun j hj => ?_⟩
    show va_cpy (mIt D) (mIt D) (24 * s + f) (24 * q + g) k (24 * q + j) = va_cpy (O.2.1 s).1 (O.2.1 q).1 f g k j
    unfold va_cpy
    by_cases h1 : g ≤ j ∧ j < g + k
    · rw [if_pos (by omega), if_pos h1, show 24 * s + f + (24 * q + j - (24 * q + g)) = 24 * s + (f + (j - g)) by omega]
      exact hS.2.2.2.2 _ (by omega)
    · rw [if_neg (by omega), if_neg h1]
      exact h0.2.2.2.2 j hj
  · rw [va_up_ne _ _ hqs]
    refine ⟨h0.1, h0.2.1, h0.2.2.1, h0.2.2.2.1, fun j hj => ?_⟩
    show va_cpy (mIt D) (mIt D) (24 * s + f) (24 * t + g) k (24 * q + j) = _
    rw [cpyL_out (by omega)]
    exact h0.2.2.2.2 j hj
theorem ffrom_last {p : Nat → Bool} : ∀ {f i : Nat}, ffrom p (f + 1) i = (ffrom p f i).or (if p (i + f) then some (i + f) else none)
  | 0, i => by
    rw [ffrom, ffrom, ffrom]
    rfl
  | f + 1, i => by
    cases hp : p i
    · rw [ffrom_n hp, ffrom_n hp, ffrom_last (f := f) (i := i + 1), show i + 1 + f = i + (f + 1) by omega]
    · rw [ffrom_y hp, ffrom_y hp]
      rfl
theorem or_rot (s x b : Nat) : s ||| (x ||| b) = (s ||| b) ||| x := by
  apply Nat.eq_of_testBit_eq
  intro i
  rw [Nat.testBit_or, Nat.testBit_or, Nat.testBit_or, Nat.testBit_or]
  cases s.testBit i <;> cases x.testBit i <;> cases b.testBit i <;> rfl
set_option maxHeartbeats 4000000 in
set_option maxRecDepth 100000 in
theorem c_X6_isSheet {E : xE} {h : xHp} (x : Int32) : PMI E mX6_isSheet [.int x] h (bI (decide (0 ≤ x ∧ x < nI 4))) h := by
  refine pm_of [some (.int x)] (by decide +kernel) (Nat.le_of_ble_eq_true rfl) rfl ?_
  refine px_iload_n dX6_isSheet_0 rfl ?_
  refine px_iconst (v := nI 0) dX6_isSheet_1 (by decide) ?_
  refine px_iconst (v := nI 3) dX6_isSheet_2 (by decide) ?_
  refine px_si (c_X6_in x (nI 0) (nI 3)) mw_X6_in wt_X6_in (Or.inl ml_X6_38) dX6_isSheet_3 (by decide) rfl rfl (Nat.le_of_ble_eq_true rfl) ⟨rfl, rfl⟩ ?_
  exact px_bret dX6_isSheet_6 rfl rfl rfl (congrArg bI (in_3 x)) ⟨rfl, rfl⟩
theorem c_ms_y {E : xE} {h : xHp} {s : Nat} (hs : s < 4) : PMI E mX6_isSheet [.int (nI s)] h (bI true) h := by
  have := c_X6_isSheet (E := E) (h := h) (nI s)
  rw [is4_t hs] at this
  exact this
theorem c_ml_y {E : xE} {h : xHp} {s : Nat} (hs : s < 4) : PMI E mX6_in [.int (nI s), .int (nI 0), .int (nI 3)] h (bI true) h := by
  have := c_X6_inL (E := E) (h := h) (nI s)
  rw [is4_t hs] at this
  exact this
set_option maxHeartbeats 4000000 in
set_option maxRecDepth 100000 in
theorem c_X6_isPart {E : xE} {h : xHp} (S : xS) (i n : Int32) (hz : S.2.2 ≤ 24) : PMI E mX6_isPart [.int i, .int n, .int (nI S.2.2)] h (bI (shold S i n)) h := by
  refine pm_of [some (.int i), some (.int n), some (.int (nI S.2.2))] (by decide +kernel) (Nat.le_of_ble_eq_true rfl) rfl ?_
  refine px_iload_n dX6_isPart_0 rfl ?_
  refine px_if_lt 24 dX6_isPart_1 (by decide) (fun c1 => ?_) (fun c1 => ?_)
  · refine px_iconst (v := nI 0) dX6_isPart_24 (by decide) ?_
    have e0 : shold S i n = false := decide_eq_false (fun q => absurd c1 (Int32.not_lt.mpr q.2.1))
    exact px_bret (b := shold S i n) dX6_isPart_25 rfl rfl rfl (by rw [e0]; rfl) ⟨rfl, rfl⟩
  · refine px_iload_n dX6_isPart_4 rfl ?_
    refine px_if_lt 24 dX6_isPart_5 (by decide) (fun c5 => ?_) (fun c5 => ?_)
    · refine px_iconst (v := nI 0) dX6_isPart_24 (by decide) ?_
      have e0 : shold S i n = false := decide_eq_false (fun q => absurd c5 (Int32.not_lt.mpr q.1))
      exact px_bret (b := shold S i n) dX6_isPart_25 rfl rfl rfl (by rw [e0]; rfl) ⟨rfl, rfl⟩
    · refine px_iload_n dX6_isPart_8 rfl ?_
      refine px_iload_n dX6_isPart_9 rfl ?_
      refine px_icmp_gt 24 dX6_isPart_10 (by decide) (fun c10 => ?_) (fun c10 => ?_)
      · refine px_iconst (v := nI 0) dX6_isPart_24 (by decide) ?_
        have e0 : shold S i n = false := decide_eq_false (fun q => sub_neg hz c10 q.1 q.2.2)
        exact px_bret (b := shold S i n) dX6_isPart_25 rfl rfl rfl (by rw [e0]; rfl) ⟨rfl, rfl⟩
      · refine px_iload_n dX6_isPart_13 rfl ?_
        refine px_iload_n dX6_isPart_14 rfl ?_
        refine px_iload_n dX6_isPart_15 rfl ?_
        refine px_isub dX6_isPart_16 ?_
        refine px_icmp_gt 24 dX6_isPart_17 (by decide) (fun c17 => ?_) (fun c17 => ?_)
        · refine px_iconst (v := nI 0) dX6_isPart_24 (by decide) ?_
          have e0 : shold S i n = false := decide_eq_false (fun q => absurd c17 (Int32.not_lt.mpr q.2.2))
          exact px_bret (b := shold S i n) dX6_isPart_25 rfl rfl rfl (by rw [e0]; rfl) ⟨rfl, rfl⟩
        · refine px_iconst (v := nI 1) dX6_isPart_20 (by decide) ?_
          refine px_goto 25 dX6_isPart_21 (by decide) ?_
          have e0 : shold S i n = true := decide_eq_true ⟨Int32.not_lt.mp c5, Int32.not_lt.mp c1, Int32.not_lt.mp c17⟩
          exact px_bret (b := shold S i n) dX6_isPart_25 rfl rfl rfl (by rw [e0]; rfl) ⟨rfl, rfl⟩
set_option maxHeartbeats 4000000 in
set_option maxRecDepth 100000 in
theorem c_X6_wrong {E : xE} {h : xHp} {w : Nat} {D : xMd} {O : xO} (hR : Rel O D) (s : Nat) (hs : s < 4) (L i n : Int32) : PMI E mX6_wrong [.ref w, .int (nI s), .int L, .int i, .int n] (MH E h w D) (sref (O.2.1 s) L i n) (MH E h w D) := by
  have hS := hR.2.2.1 s hs
  refine pm_of [some (.ref w), some (.int (nI s)), some (.int L), some (.int i), some (.int n)] (by decide +kernel) (Nat.le_of_ble_eq_true rfl) rfl ?_
  rcases hS.2.1 with hl1 | ⟨l2, hl2, hl3, hsz⟩
  · have hla : mLa D s = -1 := hS.1.trans hl1
    refine px_aload_n dX6_wrong_0 rfl ?_
    refine px_get xk_X6 0 dX6_wrong_1 (Or.inl fl_X6_7) MH_obj (by decide) rfl ?_
    refine px_iload_n dX6_wrong_4 rfl ?_
    refine px_laL dX6_wrong_5 (by omega) (px_topi hla ?_)
    refine px_if_ge 14 dX6_wrong_6 (by decide) (fun z => absurd z (by decide)) (fun _ => ?_)
    refine px_bipush (v := -11) dX6_wrong_9 (by decide) ?_
    refine px_goto 50 dX6_wrong_11 (by decide) ?_
    exact px_iret dX6_wrong_50 rfl rfl rfl ⟨(by unfold sref; rw [if_pos hl1]), rfl⟩
  · have hla : mLa D s = nI l2 := hS.1.trans hl3
    have hne : (O.2.1 s).2.1 ≠ -1 := by rw [hl3]; exact nI_m1n (by omega)
    refine px_aload_n dX6_wrong_0 rfl ?_
    refine px_get xk_X6 0 dX6_wrong_1 (Or.inl fl_X6_7) MH_obj (by decide) rfl ?_
    refine px_iload_n dX6_wrong_4 rfl ?_
    refine px_laL dX6_wrong_5 (by omega) (px_topi hla ?_)
    refine px_if_geN 14 dX6_wrong_6 (by decide) (by first | omega | exact hOK.lt (by decide) | exact hOK.lts (by decide)) ?_
    refine px_aload_n dX6_wrong_14 rfl ?_
    refine px_get xk_X6 0 dX6_wrong_15 (Or.inl fl_X6_7) MH_obj (by decide) rfl ?_
    refine px_iload_n dX6_wrong_18 rfl ?_
    refine px_laL dX6_wrong_19 (by omega) (px_topi hla ?_)
    refine px_iload_n dX6_wrong_20 rfl ?_
    refine px_icmp_eq 29 dX6_wrong_21 (by decide) (fun c21 => ?_) (fun c21 => ?_)
    · refine px_iload_n dX6_wrong_29 rfl ?_
      refine px_iload dX6_wrong_30 rfl ?_
      refine px_aload_n dX6_wrong_32 rfl ?_
      refine px_get xk_X6 1 dX6_wrong_33 (Or.inl fl_X6_13) MH_obj (by decide) rfl ?_
      refine px_iload_n dX6_wrong_36 rfl ?_
      refine px_szL dX6_wrong_37 (by omega) (px_topi (congrArg nI hsz) ?_)
      refine px_si (c_X6_isPart (O.2.1 s) i n hS.2.2.1) mw_X6_isPart wt_X6_isPart (Or.inl ml_X6_159) dX6_wrong_38 (by decide) rfl rfl (Nat.le_of_ble_eq_true rfl) ⟨rfl, rfl⟩ ?_
      refine px_if_eqB 48 dX6_wrong_41 (by decide) (fun c41 => ?_) (fun c41 => ?_)
      · refine px_bipush (v := -13) dX6_wrong_48 (by decide) ?_
        exact px_iret dX6_wrong_50 rfl rfl rfl ⟨(by unfold sref; rw [if_neg hne, if_pos (hl3.trans c21), if_neg (by rw [c41]; decide)]), rfl⟩
      · refine px_iconst (v := nI 0) dX6_wrong_44 (by decide) ?_
        refine px_goto 50 dX6_wrong_45 (by decide) ?_
        exact px_iret dX6_wrong_50 rfl rfl rfl ⟨(by unfold sref; rw [if_neg hne, if_pos (hl3.trans c21), if_pos c41]), rfl⟩
    · refine px_bipush (v := -12) dX6_wrong_24 (by decide) ?_
      refine px_goto 50 dX6_wrong_26 (by decide) ?_
      exact px_iret dX6_wrong_50 rfl rfl rfl ⟨(by unfold sref; rw [if_neg hne, if_neg (fun q => c21 (hl3.symm.trans q))]), rfl⟩
theorem c_wr_y {E : xE} {h : xHp} {w : Nat} {D : xMd} {O : xO} (hR : Rel O D) {s l f m : Nat} (hs : s < 4) (hl : l < 4) (hL : (O.2.1 s).2.1 = nI l) (hz : (O.2.1 s).2.2 ≤ 24) (hf : f + m ≤ (O.2.1 s).2.2) : PMI E mX6_wrong [.ref w, .int (nI s), .int (nI l), .int (nI f), .int (nI m)] (MH E h w D) (nI 0) (MH E h w D) := by
  have := c_X6_wrong (E := E) (h := h) (w := w) hR s hs (nI l) (nI f) (nI m)
  rw [sref_ok hl hL hz hf] at this
  exact this
set_option maxHeartbeats 4000000 in
set_option maxRecDepth 100000 in
theorem l_X6_isGrown0 {E : xE} {h : xHp} {w : Nat} {O : xO} (a s f m i : Nat) (hm8 : m ≤ 24) (hi : i ≤ 24) (D : xMd) (hR : Rel O D) : PW E mX6_isGrown (fun v h1 => v = some (.int (bI false)) ∧ ∃ D', Rel O D' ∧ h1 = MH E h w D') 0 0 6 [some (.ref w), some (.int (nI a)), some (.int (nI s)), some (.int (nI f)), some (.int (nI m)), some (.int (nI 0)), some (.int (nI i))] [] (MH E h w D) := by
  refine px_iload dX6_isGrown_6 rfl ?_
  refine px_iload dX6_isGrown_8 rfl ?_
  refine px_icmp_geN 67 dX6_isGrown_10 (by decide) (by omega) (by omega) (fun c10 => ?_) (fun c10 => ?_)
  · refine px_iload dX6_isGrown_67 rfl ?_
    exact px_bret (b := false) dX6_isGrown_69 rfl rfl rfl rfl ⟨rfl, D, hR, rfl⟩
  · refine px_iload dX6_isGrown_13 rfl ?_
    refine px_if_eq 67 dX6_isGrown_15 (by decide) (fun _ => ?_) (fun z => absurd z (by decide))
    refine px_iload dX6_isGrown_67 rfl ?_
    exact px_bret (b := false) dX6_isGrown_69 rfl rfl rfl rfl ⟨rfl, D, hR, rfl⟩
set_option maxHeartbeats 4000000 in
set_option maxRecDepth 100000 in
theorem l_X6_isGrown {E : xE} {h : xHp} {w : Nat} {O : xO} {T : xT} (a s f m : Nat) (ha : a < T.2 0) (h6 : T.2 0 ≤ 6) (hs : s < 4) (hfm : f + m ≤ 24) (hn : T.2 4 + 100 < 2 ^ 30) : ∀ (n i : Nat) (D : xMd), i + n = m → Tri O D (tnights T hm0 i) → PW E mX6_isGrown (fun v h1 => v = some (.int (bI (tgo T a (O.2.1 s).1 f n i))) ∧ ∃ D', Rel O D' ∧ h1 = MH E h w D') 0 0 6 [some (.ref w), some (.int (nI a)), some (.int (nI s)), some (.int (nI f)), some (.int (nI m)), some (.int (nI 1)), some (.int (nI i))] [] (MH E h w D) := by
  intro n
  induction n with
  | zero =>
    intro i D h1 hI
    refine px_iload dX6_isGrown_6 rfl ?_
    refine px_iload dX6_isGrown_8 rfl ?_
    refine px_icmp_geN 67 dX6_isGrown_10 (by decide) (by omega) (by omega) (fun c10 => ?_) (fun c10 => ?_)
    · refine px_iload dX6_isGrown_67 rfl ?_
      exact px_bret (b := true) dX6_isGrown_69 rfl rfl rfl rfl ⟨rfl, D, hI.1, rfl⟩
    · omega
  | succ n ih =>
    intro i D h1 hI
    refine px_iload dX6_isGrown_6 rfl ?_
    refine px_iload dX6_isGrown_8 rfl ?_
    refine px_icmp_geN 67 dX6_isGrown_10 (by decide) (by omega) (by omega) (fun c10 => ?_) (fun c10 => ?_)
    · omega
    · refine px_iload dX6_isGrown_13 rfl ?_
      refine px_if_eq 67 dX6_isGrown_15 (by decide) (fun z => absurd z (by decide)) (fun _ => ?_)
      refine px_aload_n dX6_isGrown_18 rfl ?_
      refine px_aload_n dX6_isGrown_19 rfl ?_
      refine px_get xk_X6 8 dX6_isGrown_20 (Or.inl fl_X6_26) MH_obj (by decide) rfl ?_
      refine px_iconst (v := nI 0) dX6_isGrown_23 (by decide) ?_
      refine px_callV (M2 := mX6_nightIn) (c_nightT hI (by rw [(tnights_s i).2.2]; omega) (nI 0) hm0 hb0) mw_X6_nightIn wm_X6_nightIn we_X6_nightIn (Or.inl ml_X6_126) dX6_isGrown_24 MH_obj rfl (by decide) rfl rfl (Nat.le_of_ble_eq_true rfl) ⟨Nat.zero_le _, Nat.zero_le _⟩ (fun v h2 hq => ?_)
      obtain ⟨rfl, D1, hI1, rfl⟩ := hq
      refine px_aload_n dX6_isGrown_27 rfl ?_
      refine px_get xk_X6 8 dX6_isGrown_28 (Or.inl fl_X6_26) MH_obj (by decide) rfl ?_
      refine px_iconst (v := nI 2) dX6_isGrown_31 (by decide) ?_
      refine px_iload_n dX6_isGrown_32 rfl ?_
      refine px_iaddN dX6_isGrown_33 ?_
      refine px_bL (b := 1) rfl dX6_isGrown_34 (by decide) (by omega) (hI1.2.1.de (show a < (tnights T hm0 (i + 1)).2 0 by rw [(tnights_s (i + 1)).1]; exact ha)) ?_
      refine px_i2l dX6_isGrown_35 ?_
      refine px_aload_n dX6_isGrown_36 rfl ?_
      refine px_get xk_X6 2 dX6_isGrown_37 (Or.inl fl_X6_16) MH_obj (by decide) rfl ?_
      refine px_bipush (v := nI 24) dX6_isGrown_40 (by decide) ?_
      refine px_iload_n dX6_isGrown_42 rfl ?_
      refine px_imulN dX6_isGrown_43 ?_
      refine px_iload_n dX6_isGrown_44 rfl ?_
      refine px_iaddN dX6_isGrown_45 ?_
      refine px_iload dX6_isGrown_46 rfl ?_
      refine px_iaddN dX6_isGrown_48 ?_
      refine px_itL dX6_isGrown_49 (by omega) (px_top (congrArg Value.long (itm hI1.1 hs (by omega))) ?_)
      refine px_lcmp dX6_isGrown_50 ?_
      refine px_if_ne 58 dX6_isGrown_51 (by decide) (fun c51 => ?_) (fun c51 => ?_)
      · refine px_iconst (v := nI 0) dX6_isGrown_58 (by decide) ?_
        refine px_ist_5 dX6_isGrown_59 (by decide) rfl ?_
        refine px_inc_6 dX6_isGrown_61 rfl (nI_1 _) (by decide) rfl ?_
        refine px_goto 6 dX6_isGrown_64 (by decide) ?_
        have e51 : ¬ (O.2.1 s).1 (f + i) = (nI ((tnights T hm0 (i + 1)).1 2 a)).toInt64 := fun q => c51 ((lg_cmp_eq _ _).mpr q.symm)
        rw [tgo, if_neg e51]
        exact l_X6_isGrown0 a s f m (i + 1) (by omega) (by omega) D1 hI1.1
      · refine px_iconst (v := nI 1) dX6_isGrown_54 (by decide) ?_
        refine px_goto 59 dX6_isGrown_55 (by decide) ?_
        refine px_ist_5 dX6_isGrown_59 (by decide) rfl ?_
        refine px_inc_6 dX6_isGrown_61 rfl (nI_1 _) (by decide) rfl ?_
        refine px_goto 6 dX6_isGrown_64 (by decide) ?_
        have e51 : (O.2.1 s).1 (f + i) = (nI ((tnights T hm0 (i + 1)).1 2 a)).toInt64 := ((lg_cmp_eq _ _).mp c51).symm
        rw [tgo, if_pos e51]
        exact ih (i + 1) D1 (by omega) hI1
set_option maxHeartbeats 4000000 in
set_option maxRecDepth 100000 in
theorem c_X6_isGrown {E : xE} {h : xHp} {w : Nat} {O : xO} {T : xT} {D : xMd} (hT : Tri O D T) (hn : T.2 4 + 100 < 2 ^ 30) (a s f m : Nat) (ha : a < T.2 0) (h6 : T.2 0 ≤ 6) (hs : s < 4) (hfm : f + m ≤ 24) : PMX E mX6_isGrown [.ref w, .int (nI a), .int (nI s), .int (nI f), .int (nI m)] h w D (bI (tgo T a (O.2.1 s).1 f m 0)) O := by
  refine pm_of [some (.ref w), some (.int (nI a)), some (.int (nI s)), some (.int (nI f)), some (.int (nI m)), none, none] (by decide +kernel) (Nat.le_of_ble_eq_true rfl) rfl ?_
  refine px_iconst (v := nI 1) dX6_isGrown_0 (by decide) ?_
  refine px_ist_5 dX6_isGrown_1 (by decide) rfl ?_
  refine px_iconst (v := nI 0) dX6_isGrown_3 (by decide) ?_
  refine px_ist_6 dX6_isGrown_4 (by decide) rfl ?_
  exact l_X6_isGrown a s f m ha h6 hs hfm hn m 0 D (by omega) hT
set_option maxHeartbeats 4000000 in
set_option maxRecDepth 100000 in
theorem l_X6_grown_0 {E : xE} {h : xHp} {w : Nat} {O : xO} (a s l f k : Nat) (ha : a < (O.1.1 0).2 0) (hs : s < 4) (hfm : f + k ≤ 24) : ∀ (j : Nat), j ≤ 5 → ∀ (D : xMd) (S : Nat) (x9 x10 : Int32), Rel O D → tkin (O.1.1 0) a (O.2.1 s).1 f k 5 = S ||| tkin (O.1.1 0) a (O.2.1 s).1 f k j → PW E mX6_grown (fun v h1 => v = some (.int (nI (tkin (O.1.1 0) a (O.2.1 s).1 f k 5))) ∧ ∃ D', Rel O D' ∧ h1 = MH E h w D') 0 0 90 [some (.ref w), some (.int (nI a)), some (.int (nI s)), some (.int (nI l)), some (.int (nI f)), some (.int (nI k)), some (.int (nI 0)), some (.int (nI 0)), some (.int (nI S)), some (.int (x9)), some (.int (x10)), some (.int (dI j)), none] [] (MH E h w D) := by
  intro j
  induction j with
  | zero =>
    intro hj D S x9 x10 hR hS
    refine px_eq (lo2 := [some (.ref w), some (.int (nI a)), some (.int (nI s)), some (.int (nI l)), some (.int (nI f)), some (.int (nI k)), some (.int (nI 0)), some (.int (nI 0)), some (.int (nI S)), some (.int (x9)), some (.int (x10)), some (.int (-1)), none]) rfl rfl rfl ?_
    refine px_iload dX6_grown_90 rfl ?_
    refine px_if_lt 189 dX6_grown_92 (by decide) (fun _ => ?_) (fun z => absurd z (by decide))
    refine px_iload dX6_grown_189 rfl ?_
    refine px_if_ne 199 dX6_grown_191 (by decide) (fun z => absurd z (by decide)) (fun _ => ?_)
    refine px_iload dX6_grown_194 rfl ?_
    refine px_goto 212 dX6_grown_196 (by decide) ?_
    exact px_iret dX6_grown_212 rfl rfl rfl ⟨(by rw [hS, tkin, Nat.or_zero]), D, hR, rfl⟩
  | succ j ih =>
    intro hj D S x9 x10 hR hS
    have R := hR.1.1
    have hOK := hR.1.2.1.1
    have hm6 := hOK.1.1
    have hm4 := hOK.1.2.1
    have hN9 := hR.1.2.1.2
    refine px_eq (lo2 := [some (.ref w), some (.int (nI a)), some (.int (nI s)), some (.int (nI l)), some (.int (nI f)), some (.int (nI k)), some (.int (nI 0)), some (.int (nI 0)), some (.int (nI S)), some (.int (x9)), some (.int (x10)), some (.int (nI j)), none]) rfl rfl rfl ?_
    refine px_iload dX6_grown_90 rfl ?_
    refine px_if_ltN 189 dX6_grown_92 (by decide) (by omega) ?_
    refine px_aload_n dX6_grown_95 rfl ?_
    refine px_callV (M2 := mX6_begin) (c_X6_begin hR) mw_X6_begin wm_X6_begin we_X6_begin (Or.inl ml_X6_141) dX6_grown_96 MH_obj rfl (by decide) rfl rfl (Nat.le_of_ble_eq_true rfl) ⟨Nat.zero_le _, Nat.zero_le _⟩ (fun v h2 hq => ?_)
    obtain ⟨rfl, D1, hI1, rfl⟩ := hq
    refine px_aload_n dX6_grown_99 rfl ?_
    refine px_get xk_X6 8 dX6_grown_100 (Or.inl fl_X6_26) MH_obj (by decide) rfl ?_
    refine px_iload dX6_grown_103 rfl ?_
    refine px_if_ne 113 dX6_grown_105 (by decide) (fun z => absurd z (by decide)) (fun _ => ?_)
    refine px_bipush (v := nI 24) dX6_grown_108 (by decide) ?_
    refine px_goto 114 dX6_grown_110 (by decide) ?_
    refine px_iload_n dX6_grown_114 rfl ?_
    refine px_iaddN dX6_grown_115 ?_
    refine px_iload dX6_grown_116 rfl ?_
    refine px_bW (b := 1) dX6_grown_118 (by decide) (by omega) ?_
    have hI2 := hI1.set (hI1.2.1.up0 hm6 hm4 (a := a) (v := j) (by omega)) (tSA_ok hOK (by omega))
    refine px_aload_n dX6_grown_119 rfl ?_
    refine px_iload_n dX6_grown_120 rfl ?_
    refine px_iload_n dX6_grown_121 rfl ?_
    refine px_iload dX6_grown_122 rfl ?_
    refine px_iload dX6_grown_124 rfl ?_
    refine px_callV (M2 := mX6_isGrown) (c_X6_isGrown hI2 (by show (O.1.1 0).2 4 + 100 < 2 ^ 30; omega) a s f k ha hm6 hs hfm) mw_X6_isGrown wm_X6_isGrown we_X6_isGrown (Or.inl ml_X6_169) dX6_grown_126 MH_obj rfl (by decide) rfl rfl (Nat.le_of_ble_eq_true rfl) ⟨Nat.zero_le _, Nat.zero_le _⟩ (fun v h2 hq => ?_)
    obtain ⟨rfl, D3, hR3, rfl⟩ := hq
    rcases hb : tgo (tSA (O.1.1 0) 0 a j) a (O.2.1 s).1 f k 0 with _ | _
    · refine px_topi (show bI false = nI 0 from rfl) ?_
      refine px_ist_12 dX6_grown_129 (by decide) rfl ?_
      refine px_iload dX6_grown_131 rfl ?_
      refine px_iload dX6_grown_133 rfl ?_
      refine px_if_eq 150 dX6_grown_135 (by decide) (fun _ => ?_) (fun z => absurd z (by decide))
      refine px_iconst (v := nI 0) dX6_grown_150 (by decide) ?_
      refine px_iorN dX6_grown_151 ?_
      refine px_ist_8 dX6_grown_152 (by decide) rfl ?_
      refine px_iload dX6_grown_154 rfl ?_
      refine px_iload dX6_grown_156 rfl ?_
      refine px_if_eq 165 dX6_grown_158 (by decide) (fun _ => ?_) (fun z => absurd z (by decide))
      refine px_iconst (v := nI 0) dX6_grown_165 (by decide) ?_
      refine px_iadd dX6_grown_166 ?_
      refine px_ist_9 dX6_grown_167 (by decide) rfl ?_
      refine px_iload dX6_grown_169 rfl ?_
      refine px_if_eq 179 dX6_grown_171 (by decide) (fun _ => ?_) (fun z => absurd z (by decide))
      refine px_iload dX6_grown_179 rfl ?_
      refine px_ist_10 dX6_grown_181 (by decide) rfl ?_
      refine px_inc_11 dX6_grown_183 rfl (dI_dec _) (by decide) rfl ?_
      refine px_goto 90 dX6_grown_186 (by decide) ?_
      refine px_fg_12 ?_
      exact ih (by omega) D3 _ _ _ hR3 (by rw [hS, tkin, hb, if_neg (by decide), Nat.or_zero])
    · refine px_topi (show bI true = nI 1 from rfl) ?_
      refine px_ist_12 dX6_grown_129 (by decide) rfl ?_
      refine px_iload dX6_grown_131 rfl ?_
      refine px_iload dX6_grown_133 rfl ?_
      refine px_if_eq 150 dX6_grown_135 (by decide) (fun z => absurd z (by decide)) (fun _ => ?_)
      refine px_iload dX6_grown_138 rfl ?_
      refine px_if_ne 150 dX6_grown_140 (by decide) (fun z => absurd z (by decide)) (fun _ => ?_)
      refine px_iconst (v := nI 1) dX6_grown_143 (by decide) ?_
      refine px_iload dX6_grown_144 rfl ?_
      refine px_ishl1 dX6_grown_146 (by omega) ?_
      refine px_goto 151 dX6_grown_147 (by decide) ?_
      refine px_iorN dX6_grown_151 ?_
      refine px_ist_8 dX6_grown_152 (by decide) rfl ?_
      refine px_iload dX6_grown_154 rfl ?_
      refine px_iload dX6_grown_156 rfl ?_
      refine px_if_eq 165 dX6_grown_158 (by decide) (fun z => absurd z (by decide)) (fun _ => ?_)
      refine px_iconst (v := nI 1) dX6_grown_161 (by decide) ?_
      refine px_goto 166 dX6_grown_162 (by decide) ?_
      refine px_iadd dX6_grown_166 ?_
      refine px_ist_9 dX6_grown_167 (by decide) rfl ?_
      refine px_iload dX6_grown_169 rfl ?_
      refine px_if_eq 179 dX6_grown_171 (by decide) (fun z => absurd z (by decide)) (fun _ => ?_)
      refine px_iload dX6_grown_174 rfl ?_
      refine px_goto 181 dX6_grown_176 (by decide) ?_
      refine px_ist_10 dX6_grown_181 (by decide) rfl ?_
      refine px_inc_11 dX6_grown_183 rfl (dI_dec _) (by decide) rfl ?_
      refine px_goto 90 dX6_grown_186 (by decide) ?_
      refine px_fg_12 ?_
      exact ih (by omega) D3 _ _ _ hR3 (by rw [hS, tkin, hb, if_pos rfl, or_rot])
set_option maxHeartbeats 4000000 in
set_option maxRecDepth 100000 in
theorem l_X6_grown_1 {E : xE} {h : xHp} {w : Nat} {O : xO} (a s l f k : Nat) (ha : a < (O.1.1 0).2 0) (hs : s < 4) (hfm : f + k ≤ 24) (u : Nat) (hu1 : 1 ≤ u) (hu2 : u ≤ 2) : ∀ (j : Nat), j ≤ 100 → ∀ (D : xMd) (x8 : Int32) (N : Nat) (L : Option Nat), Rel O D → tnum (O.1.1 0) a (O.2.1 s).1 f k 100 = N + tnum (O.1.1 0) a (O.2.1 s).1 f k j → ffrom (fun v => tgo (tSA (O.1.1 0) 2 a v) a (O.2.1 s).1 f k 0) 100 0 = (ffrom (fun v => tgo (tSA (O.1.1 0) 2 a v) a (O.2.1 s).1 f k 0) j 0).or L → PW E mX6_grown (fun v h1 => v = some (.int (tnl (O.1.1 0) a (O.2.1 s).1 f k (decide (u = 2)))) ∧ ∃ D', Rel O D' ∧ h1 = MH E h w D') 0 0 90 [some (.ref w), some (.int (nI a)), some (.int (nI s)), some (.int (nI l)), some (.int (nI f)), some (.int (nI k)), some (.int (nI u)), some (.int (nI 0)), some (.int (x8)), some (.int (nI N)), some (.int (oI L)), some (.int (dI j)), none] [] (MH E h w D) := by
  intro j
  induction j with
  | zero =>
    intro hj D x8 N L hR hM hL
    refine px_eq (lo2 := [some (.ref w), some (.int (nI a)), some (.int (nI s)), some (.int (nI l)), some (.int (nI f)), some (.int (nI k)), some (.int (nI u)), some (.int (nI 0)), some (.int (x8)), some (.int (nI N)), some (.int (oI L)), some (.int (-1)), none]) rfl rfl rfl ?_
    refine px_iload dX6_grown_90 rfl ?_
    refine px_if_lt 189 dX6_grown_92 (by decide) (fun _ => ?_) (fun z => absurd z (by decide))
    refine px_iload dX6_grown_189 rfl ?_
    refine px_if_neN 199 dX6_grown_191 (by decide) (by omega) (fun c191 => ?_) (fun c191 => ?_)
    · refine px_iload dX6_grown_199 rfl ?_
      refine px_iconst (v := nI 1) dX6_grown_201 (by decide) ?_
      refine px_icmp_neN 210 dX6_grown_202 (by decide) (by omega) (by omega) (fun c202 => ?_) (fun c202 => ?_)
      · refine px_iload dX6_grown_210 rfl ?_
        exact px_iret dX6_grown_212 rfl rfl rfl ⟨(by unfold tnl; rw [decide_eq_true (by omega), if_pos rfl, hL]; rfl), D, hR, rfl⟩
      · refine px_iload dX6_grown_205 rfl ?_
        refine px_goto 212 dX6_grown_207 (by decide) ?_
        exact px_iret dX6_grown_212 rfl rfl rfl ⟨(by unfold tnl; rw [decide_eq_false (by omega), if_neg (by decide), hM]; rfl), D, hR, rfl⟩
    · omega
  | succ j ih =>
    intro hj D x8 N L hR hM hL
    have R := hR.1.1
    have hOK := hR.1.2.1.1
    have hm6 := hOK.1.1
    have hm4 := hOK.1.2.1
    have hN9 := hR.1.2.1.2
    refine px_eq (lo2 := [some (.ref w), some (.int (nI a)), some (.int (nI s)), some (.int (nI l)), some (.int (nI f)), some (.int (nI k)), some (.int (nI u)), some (.int (nI 0)), some (.int (x8)), some (.int (nI N)), some (.int (oI L)), some (.int (nI j)), none]) rfl rfl rfl ?_
    refine px_iload dX6_grown_90 rfl ?_
    refine px_if_ltN 189 dX6_grown_92 (by decide) (by omega) ?_
    refine px_aload_n dX6_grown_95 rfl ?_
    refine px_callV (M2 := mX6_begin) (c_X6_begin hR) mw_X6_begin wm_X6_begin we_X6_begin (Or.inl ml_X6_141) dX6_grown_96 MH_obj rfl (by decide) rfl rfl (Nat.le_of_ble_eq_true rfl) ⟨Nat.zero_le _, Nat.zero_le _⟩ (fun v h2 hq => ?_)
    obtain ⟨rfl, D1, hI1, rfl⟩ := hq
    refine px_aload_n dX6_grown_99 rfl ?_
    refine px_get xk_X6 8 dX6_grown_100 (Or.inl fl_X6_26) MH_obj (by decide) rfl ?_
    refine px_iload dX6_grown_103 rfl ?_
    refine px_if_neN 113 dX6_grown_105 (by decide) (by omega) (fun c105 => ?_) (fun c105 => ?_)
    · refine px_iconst (v := nI 2) dX6_grown_113 (by decide) ?_
      refine px_iload_n dX6_grown_114 rfl ?_
      refine px_iaddN dX6_grown_115 ?_
      refine px_iload dX6_grown_116 rfl ?_
      refine px_bW (b := 1) dX6_grown_118 (by decide) (by omega) ?_
      have hI2 := hI1.set (hI1.2.1.up2 hm6 hm4 (a := a) (v := j) (by omega)) (tSA_ok hOK (by omega))
      refine px_aload_n dX6_grown_119 rfl ?_
      refine px_iload_n dX6_grown_120 rfl ?_
      refine px_iload_n dX6_grown_121 rfl ?_
      refine px_iload dX6_grown_122 rfl ?_
      refine px_iload dX6_grown_124 rfl ?_
      refine px_callV (M2 := mX6_isGrown) (c_X6_isGrown hI2 (by show (O.1.1 0).2 4 + 100 < 2 ^ 30; omega) a s f k ha hm6 hs hfm) mw_X6_isGrown wm_X6_isGrown we_X6_isGrown (Or.inl ml_X6_169) dX6_grown_126 MH_obj rfl (by decide) rfl rfl (Nat.le_of_ble_eq_true rfl) ⟨Nat.zero_le _, Nat.zero_le _⟩ (fun v h2 hq => ?_)
      obtain ⟨rfl, D3, hR3, rfl⟩ := hq
      rcases hb : tgo (tSA (O.1.1 0) 2 a j) a (O.2.1 s).1 f k 0 with _ | _
      · refine px_topi (show bI false = nI 0 from rfl) ?_
        refine px_ist_12 dX6_grown_129 (by decide) rfl ?_
        refine px_iload dX6_grown_131 rfl ?_
        refine px_iload dX6_grown_133 rfl ?_
        refine px_if_eq 150 dX6_grown_135 (by decide) (fun _ => ?_) (fun z => absurd z (by decide))
        refine px_iconst (v := nI 0) dX6_grown_150 (by decide) ?_
        refine px_ior dX6_grown_151 ?_
        refine px_ist_8 dX6_grown_152 (by decide) rfl ?_
        refine px_iload dX6_grown_154 rfl ?_
        refine px_iload dX6_grown_156 rfl ?_
        refine px_if_eq 165 dX6_grown_158 (by decide) (fun _ => ?_) (fun z => absurd z (by decide))
        refine px_iconst (v := nI 0) dX6_grown_165 (by decide) ?_
        refine px_iaddN dX6_grown_166 ?_
        refine px_ist_9 dX6_grown_167 (by decide) rfl ?_
        refine px_iload dX6_grown_169 rfl ?_
        refine px_if_eq 179 dX6_grown_171 (by decide) (fun _ => ?_) (fun z => absurd z (by decide))
        refine px_iload dX6_grown_179 rfl ?_
        refine px_ist_10 dX6_grown_181 (by decide) rfl ?_
        refine px_inc_11 dX6_grown_183 rfl (dI_dec _) (by decide) rfl ?_
        refine px_goto 90 dX6_grown_186 (by decide) ?_
        refine px_fg_12 ?_
        exact ih (by omega) D3 _ _ L hR3 (by rw [hM, tnum, hb, if_neg (by decide)]; rfl) (by rw [hL, ffrom_last, Nat.zero_add, hb, if_neg (by decide), Option.or_none])
      · refine px_topi (show bI true = nI 1 from rfl) ?_
        refine px_ist_12 dX6_grown_129 (by decide) rfl ?_
        refine px_iload dX6_grown_131 rfl ?_
        refine px_iload dX6_grown_133 rfl ?_
        refine px_if_eq 150 dX6_grown_135 (by decide) (fun z => absurd z (by decide)) (fun _ => ?_)
        refine px_iload dX6_grown_138 rfl ?_
        refine px_if_neN 150 dX6_grown_140 (by decide) (by omega) (fun c140 => ?_) (fun c140 => ?_)
        · refine px_iconst (v := nI 0) dX6_grown_150 (by decide) ?_
          refine px_ior dX6_grown_151 ?_
          refine px_ist_8 dX6_grown_152 (by decide) rfl ?_
          refine px_iload dX6_grown_154 rfl ?_
          refine px_iload dX6_grown_156 rfl ?_
          refine px_if_eq 165 dX6_grown_158 (by decide) (fun z => absurd z (by decide)) (fun _ => ?_)
          refine px_iconst (v := nI 1) dX6_grown_161 (by decide) ?_
          refine px_goto 166 dX6_grown_162 (by decide) ?_
          refine px_iaddN dX6_grown_166 ?_
          refine px_ist_9 dX6_grown_167 (by decide) rfl ?_
          refine px_iload dX6_grown_169 rfl ?_
          refine px_if_eq 179 dX6_grown_171 (by decide) (fun z => absurd z (by decide)) (fun _ => ?_)
          refine px_iload dX6_grown_174 rfl ?_
          refine px_goto 181 dX6_grown_176 (by decide) ?_
          refine px_ist_10 dX6_grown_181 (by decide) rfl ?_
          refine px_inc_11 dX6_grown_183 rfl (dI_dec _) (by decide) rfl ?_
          refine px_goto 90 dX6_grown_186 (by decide) ?_
          refine px_fg_12 ?_
          exact ih (by omega) D3 _ _ (some j) hR3 (by rw [hM, tnum, hb, if_pos rfl]; omega) (by rw [hL, ffrom_last, Nat.zero_add, hb, if_pos rfl, Option.or_assoc]; rfl)
        · omega
    · omega
set_option maxHeartbeats 4000000 in
set_option maxRecDepth 100000 in
theorem c_X6_grown_n {E : xE} {h : xHp} {w : Nat} {D : xMd} {O : xO} (hR : Rel O D) (x s l i k u : Int32) (hx : ¬ ((0 ≤ x ∧ x < nI ((O.1.1 0).2 0)) ∧ (0 ≤ s ∧ s < nI 4) ∧ (0 ≤ l ∧ l < nI 4) ∧ (nI 1 ≤ k ∧ k ≤ nI 8) ∧ (nI 0 ≤ u ∧ u ≤ nI 2))) : PMX E mX6_grown [.ref w, .int x, .int s, .int l, .int i, .int k, .int u] h w D (-1) O := by
  have R := hR.1.1
  have hOK := hR.1.2.1.1
  have hm6 := hOK.1.1
  have hm4 := hOK.1.2.1
  have hN9 := hR.1.2.1.2
  refine pm_of [some (.ref w), some (.int x), some (.int s), some (.int l), some (.int i), some (.int k), some (.int u), none, none, none, none, none, none] (by decide +kernel) (Nat.le_of_ble_eq_true rfl) rfl ?_
  refine px_aload_n dX6_grown_0 rfl ?_
  refine px_iload_n dX6_grown_1 rfl ?_
  refine px_vi (M2 := mX6_isOne) (c_X6_isOne R hOK x) mw_X6_isOne wm_X6_isOne we_X6_isOne (Or.inl ml_X6_58) dX6_grown_2 (MH_obj) rfl (by decide) rfl rfl (Nat.le_of_ble_eq_true rfl) ⟨rfl, rfl⟩ ?_
  refine px_if_eqB 45 dX6_grown_5 (by decide) (fun c5 => ?_) (fun c5 => ?_)
  · refine px_iconst (v := -1) dX6_grown_45 (by decide) ?_
    exact px_iret dX6_grown_46 rfl rfl rfl ⟨rfl, D, hR, rfl⟩
  · refine px_iload_n dX6_grown_8 rfl ?_
    refine px_si (c_X6_isSheet s) mw_X6_isSheet wt_X6_isSheet (Or.inl ml_X6_162) dX6_grown_9 (by decide) rfl rfl (Nat.le_of_ble_eq_true rfl) ⟨rfl, rfl⟩ ?_
    refine px_if_eqB 45 dX6_grown_12 (by decide) (fun c12 => ?_) (fun c12 => ?_)
    · refine px_iconst (v := -1) dX6_grown_45 (by decide) ?_
      exact px_iret dX6_grown_46 rfl rfl rfl ⟨rfl, D, hR, rfl⟩
    · refine px_iload_n dX6_grown_15 rfl ?_
      refine px_iconst (v := nI 0) dX6_grown_16 (by decide) ?_
      refine px_iconst (v := nI 3) dX6_grown_17 (by decide) ?_
      refine px_si (c_X6_inL l) mw_X6_in wt_X6_in (Or.inl ml_X6_38) dX6_grown_18 (by decide) rfl rfl (Nat.le_of_ble_eq_true rfl) ⟨rfl, rfl⟩ ?_
      refine px_if_eqB 45 dX6_grown_21 (by decide) (fun c21 => ?_) (fun c21 => ?_)
      · refine px_iconst (v := -1) dX6_grown_45 (by decide) ?_
        exact px_iret dX6_grown_46 rfl rfl rfl ⟨rfl, D, hR, rfl⟩
      · refine px_iload dX6_grown_24 rfl ?_
        refine px_iconst (v := nI 1) dX6_grown_26 (by decide) ?_
        refine px_bipush (v := nI 8) dX6_grown_27 (by decide) ?_
        refine px_si (c_X6_in (k) (nI 1) (nI 8)) mw_X6_in wt_X6_in (Or.inl ml_X6_38) dX6_grown_29 (by decide) rfl rfl (Nat.le_of_ble_eq_true rfl) ⟨rfl, rfl⟩ ?_
        refine px_if_eqB 45 dX6_grown_32 (by decide) (fun c32 => ?_) (fun c32 => ?_)
        · refine px_iconst (v := -1) dX6_grown_45 (by decide) ?_
          exact px_iret dX6_grown_46 rfl rfl rfl ⟨rfl, D, hR, rfl⟩
        · refine px_iload dX6_grown_35 rfl ?_
          refine px_iconst (v := nI 0) dX6_grown_37 (by decide) ?_
          refine px_iconst (v := nI 2) dX6_grown_38 (by decide) ?_
          refine px_si (c_X6_in (u) (nI 0) (nI 2)) mw_X6_in wt_X6_in (Or.inl ml_X6_38) dX6_grown_39 (by decide) rfl rfl (Nat.le_of_ble_eq_true rfl) ⟨rfl, rfl⟩ ?_
          refine px_if_neB 47 dX6_grown_42 (by decide) (fun c42 => ?_) (fun c42 => ?_)
          · exact absurd ⟨of_decide_eq_true c5, of_decide_eq_true c12, of_decide_eq_true c21, of_decide_eq_true c32, of_decide_eq_true c42⟩ hx
          · refine px_iconst (v := -1) dX6_grown_45 (by decide) ?_
            exact px_iret dX6_grown_46 rfl rfl rfl ⟨rfl, D, hR, rfl⟩
set_option maxHeartbeats 4000000 in
set_option maxRecDepth 100000 in
theorem c_X6_grown_r {E : xE} {h : xHp} {w : Nat} {D : xMd} {O : xO} (hR : Rel O D) (a s l : Nat) (i : Int32) (k u : Nat) (ha : a < (O.1.1 0).2 0) (hs : s < 4) (hl : l < 4) (h1 : 1 ≤ k) (hk : k ≤ 8) (hu : u ≤ 2) (hr : sref (O.2.1 s) (nI l) i (nI k) < 0) : PMX E mX6_grown [.ref w, .int (nI a), .int (nI s), .int (nI l), .int i, .int (nI k), .int (nI u)] h w D (sref (O.2.1 s) (nI l) i (nI k)) O := by
  have R := hR.1.1
  have hOK := hR.1.2.1.1
  have hm6 := hOK.1.1
  have hm4 := hOK.1.2.1
  have hN9 := hR.1.2.1.2
  refine pm_of [some (.ref w), some (.int (nI a)), some (.int (nI s)), some (.int (nI l)), some (.int i), some (.int (nI k)), some (.int (nI u)), none, none, none, none, none, none] (by decide +kernel) (Nat.le_of_ble_eq_true rfl) rfl ?_
  refine px_aload_n dX6_grown_0 rfl ?_
  refine px_iload_n dX6_grown_1 rfl ?_
  refine px_vi (M2 := mX6_isOne) (c_m1_y R hOK ha) mw_X6_isOne wm_X6_isOne we_X6_isOne (Or.inl ml_X6_58) dX6_grown_2 (MH_obj) rfl (by decide) rfl rfl (Nat.le_of_ble_eq_true rfl) ⟨rfl, rfl⟩ ?_
  refine px_if_eqB 45 dX6_grown_5 (by decide) (fun c5 => ?_) (fun c5 => ?_)
  · cases c5
  · refine px_iload_n dX6_grown_8 rfl ?_
    refine px_si (c_ms_y hs) mw_X6_isSheet wt_X6_isSheet (Or.inl ml_X6_162) dX6_grown_9 (by decide) rfl rfl (Nat.le_of_ble_eq_true rfl) ⟨rfl, rfl⟩ ?_
    refine px_if_eqB 45 dX6_grown_12 (by decide) (fun c12 => ?_) (fun c12 => ?_)
    · cases c12
    · refine px_iload_n dX6_grown_15 rfl ?_
      refine px_iconst (v := nI 0) dX6_grown_16 (by decide) ?_
      refine px_iconst (v := nI 3) dX6_grown_17 (by decide) ?_
      refine px_si (c_ml_y hl) mw_X6_in wt_X6_in (Or.inl ml_X6_38) dX6_grown_18 (by decide) rfl rfl (Nat.le_of_ble_eq_true rfl) ⟨rfl, rfl⟩ ?_
      refine px_if_eqB 45 dX6_grown_21 (by decide) (fun c21 => ?_) (fun c21 => ?_)
      · cases c21
      · refine px_iload dX6_grown_24 rfl ?_
        refine px_iconst (v := nI 1) dX6_grown_26 (by decide) ?_
        refine px_bipush (v := nI 8) dX6_grown_27 (by decide) ?_
        refine px_si (c_X6_in (nI k) (nI 1) (nI 8)) mw_X6_in wt_X6_in (Or.inl ml_X6_38) dX6_grown_29 (by decide) rfl rfl (Nat.le_of_ble_eq_true rfl) ⟨rfl, rfl⟩ ?_
        refine px_if_eqB 45 dX6_grown_32 (by decide) (fun c32 => ?_) (fun c32 => ?_)
        · rw [in_t (by omega) (by omega) (by decide)] at c32
          cases c32
        · refine px_iload dX6_grown_35 rfl ?_
          refine px_iconst (v := nI 0) dX6_grown_37 (by decide) ?_
          refine px_iconst (v := nI 2) dX6_grown_38 (by decide) ?_
          refine px_si (c_X6_in (nI u) (nI 0) (nI 2)) mw_X6_in wt_X6_in (Or.inl ml_X6_38) dX6_grown_39 (by decide) rfl rfl (Nat.le_of_ble_eq_true rfl) ⟨rfl, rfl⟩ ?_
          refine px_if_neB 47 dX6_grown_42 (by decide) (fun c42 => ?_) (fun c42 => ?_)
          · refine px_aload_n dX6_grown_47 rfl ?_
            refine px_iload_n dX6_grown_48 rfl ?_
            refine px_iload_n dX6_grown_49 rfl ?_
            refine px_iload dX6_grown_50 rfl ?_
            refine px_iload dX6_grown_52 rfl ?_
            refine px_vi (M2 := mX6_wrong) (c_X6_wrong hR s hs (nI l) i (nI k)) mw_X6_wrong wm_X6_wrong we_X6_wrong (Or.inl ml_X6_165) dX6_grown_54 (MH_obj) rfl (by decide) rfl rfl (Nat.le_of_ble_eq_true rfl) ⟨rfl, rfl⟩ ?_
            refine px_ist_7 dX6_grown_57 (by decide) rfl ?_
            refine px_iload dX6_grown_59 rfl ?_
            refine px_if_eq 67 dX6_grown_61 (by decide) (fun c61 => ?_) (fun c61 => ?_)
            · exact absurd hr (by rw [c61]; decide)
            · refine px_iload dX6_grown_64 rfl ?_
              exact px_iret dX6_grown_66 rfl rfl rfl ⟨rfl, D, hR, rfl⟩
          · rw [in_t (by omega) (by omega) (by decide)] at c42
            cases c42
set_option maxHeartbeats 4000000 in
set_option maxRecDepth 100000 in
theorem c_X6_grown {E : xE} {h : xHp} {w : Nat} {D : xMd} {O : xO} (hR : Rel O D) (a s l f k u : Nat) (ha : a < (O.1.1 0).2 0) (hs : s < 4) (hl : l < 4) (h1 : 1 ≤ k) (hk : k ≤ 8) (hu : u ≤ 2) (hL : (O.2.1 s).2.1 = nI l) (hz : (O.2.1 s).2.2 ≤ 24) (hf : f + k ≤ (O.2.1 s).2.2) : PMX E mX6_grown [.ref w, .int (nI a), .int (nI s), .int (nI l), .int (nI f), .int (nI k), .int (nI u)] h w D (tgrwn (O.1.1 0) a (O.2.1 s).1 f k u) O := by
  have R := hR.1.1
  have hOK := hR.1.2.1.1
  have hm6 := hOK.1.1
  have hm4 := hOK.1.2.1
  have hN9 := hR.1.2.1.2
  refine pm_of [some (.ref w), some (.int (nI a)), some (.int (nI s)), some (.int (nI l)), some (.int (nI f)), some (.int (nI k)), some (.int (nI u)), none, none, none, none, none, none] (by decide +kernel) (Nat.le_of_ble_eq_true rfl) rfl ?_
  refine px_aload_n dX6_grown_0 rfl ?_
  refine px_iload_n dX6_grown_1 rfl ?_
  refine px_vi (M2 := mX6_isOne) (c_m1_y R hOK ha) mw_X6_isOne wm_X6_isOne we_X6_isOne (Or.inl ml_X6_58) dX6_grown_2 (MH_obj) rfl (by decide) rfl rfl (Nat.le_of_ble_eq_true rfl) ⟨rfl, rfl⟩ ?_
  refine px_if_eqB 45 dX6_grown_5 (by decide) (fun c5 => ?_) (fun c5 => ?_)
  · cases c5
  · refine px_iload_n dX6_grown_8 rfl ?_
    refine px_si (c_ms_y hs) mw_X6_isSheet wt_X6_isSheet (Or.inl ml_X6_162) dX6_grown_9 (by decide) rfl rfl (Nat.le_of_ble_eq_true rfl) ⟨rfl, rfl⟩ ?_
    refine px_if_eqB 45 dX6_grown_12 (by decide) (fun c12 => ?_) (fun c12 => ?_)
    · cases c12
    · refine px_iload_n dX6_grown_15 rfl ?_
      refine px_iconst (v := nI 0) dX6_grown_16 (by decide) ?_
      refine px_iconst (v := nI 3) dX6_grown_17 (by decide) ?_
      refine px_si (c_ml_y hl) mw_X6_in wt_X6_in (Or.inl ml_X6_38) dX6_grown_18 (by decide) rfl rfl (Nat.le_of_ble_eq_true rfl) ⟨rfl, rfl⟩ ?_
      refine px_if_eqB 45 dX6_grown_21 (by decide) (fun c21 => ?_) (fun c21 => ?_)
      · cases c21
      · refine px_iload dX6_grown_24 rfl ?_
        refine px_iconst (v := nI 1) dX6_grown_26 (by decide) ?_
        refine px_bipush (v := nI 8) dX6_grown_27 (by decide) ?_
        refine px_si (c_X6_in (nI k) (nI 1) (nI 8)) mw_X6_in wt_X6_in (Or.inl ml_X6_38) dX6_grown_29 (by decide) rfl rfl (Nat.le_of_ble_eq_true rfl) ⟨rfl, rfl⟩ ?_
        refine px_if_eqB 45 dX6_grown_32 (by decide) (fun c32 => ?_) (fun c32 => ?_)
        · rw [in_t (by omega) (by omega) (by decide)] at c32
          cases c32
        · refine px_iload dX6_grown_35 rfl ?_
          refine px_iconst (v := nI 0) dX6_grown_37 (by decide) ?_
          refine px_iconst (v := nI 2) dX6_grown_38 (by decide) ?_
          refine px_si (c_X6_in (nI u) (nI 0) (nI 2)) mw_X6_in wt_X6_in (Or.inl ml_X6_38) dX6_grown_39 (by decide) rfl rfl (Nat.le_of_ble_eq_true rfl) ⟨rfl, rfl⟩ ?_
          refine px_if_neB 47 dX6_grown_42 (by decide) (fun c42 => ?_) (fun c42 => ?_)
          · refine px_aload_n dX6_grown_47 rfl ?_
            refine px_iload_n dX6_grown_48 rfl ?_
            refine px_iload_n dX6_grown_49 rfl ?_
            refine px_iload dX6_grown_50 rfl ?_
            refine px_iload dX6_grown_52 rfl ?_
            refine px_vi (M2 := mX6_wrong) (c_wr_y hR hs hl hL hz hf) mw_X6_wrong wm_X6_wrong we_X6_wrong (Or.inl ml_X6_165) dX6_grown_54 (MH_obj) rfl (by decide) rfl rfl (Nat.le_of_ble_eq_true rfl) ⟨rfl, rfl⟩ ?_
            refine px_ist_7 dX6_grown_57 (by decide) rfl ?_
            refine px_iload dX6_grown_59 rfl ?_
            refine px_if_eq 67 dX6_grown_61 (by decide) (fun _ => ?_) (fun z => absurd z (by decide))
            refine px_iconst (v := nI 0) dX6_grown_67 (by decide) ?_
            refine px_ist_8 dX6_grown_68 (by decide) rfl ?_
            refine px_iconst (v := nI 0) dX6_grown_70 (by decide) ?_
            refine px_ist_9 dX6_grown_71 (by decide) rfl ?_
            refine px_bipush (v := -4) dX6_grown_73 (by decide) ?_
            refine px_ist_10 dX6_grown_75 (by decide) rfl ?_
            refine px_iload dX6_grown_77 rfl ?_
            refine px_if_neN 86 dX6_grown_79 (by decide) (by first | omega | exact hOK.lt (by decide) | exact hOK.lts (by decide)) (fun c79 => ?_) (fun c79 => ?_)
            · refine px_bipush (v := nI 99) dX6_grown_86 (by decide) ?_
              refine px_ist_11 dX6_grown_88 (by decide) rfl ?_
              rw [show tgrwn (O.1.1 0) a (O.2.1 s).1 f k u = tnl (O.1.1 0) a (O.2.1 s).1 f k (decide (u = 2)) from if_neg c79]
              exact l_X6_grown_1 a s l f k ha hs (by omega) u (by omega) hu 100 (by omega) D _ 0 none hR (by rw [Nat.zero_add]) (by rw [Option.or_none])
            · refine px_iconst (v := nI 4) dX6_grown_82 (by decide) ?_
              refine px_goto 88 dX6_grown_83 (by decide) ?_
              refine px_ist_11 dX6_grown_88 (by decide) rfl ?_
              subst c79
              exact l_X6_grown_0 a s l f k ha hs (by omega) 5 (by omega) D 0 _ _ hR (by rw [Nat.zero_or])
          · rw [in_t (by omega) (by omega) (by decide)] at c42
            cases c42
set_option maxHeartbeats 4000000 in
set_option maxRecDepth 100000 in
theorem l_X6_film {E : xE} {h : xHp} {w : Nat} {O : xO} (a k s l f : Nat) (ha : a < (O.1.1 0).2 0) (hm6 : (O.1.1 0).2 0 ≤ 6) (hN9 : (O.1.1 0).2 4 ≤ 9999) (hs : s < 4) (hfm : f + k ≤ 24) : ∀ (n i : Nat) (D : xMd), i ≤ k → k + 1 ≤ i + n → Tri (oS O s (stell (O.1.1 0) a (O.2.1 s) f i)) D (tnights (O.1.1 0) hm0 i) → PW E mX6_film (fun v h1 => v = some (.int (nI k)) ∧ ∃ D', Rel (oS O s (stell (O.1.1 0) a (O.2.1 s) f k)) D' ∧ h1 = MH E h w D') 0 0 64 [some (.ref w), some (.int (nI a)), some (.int (nI k)), some (.int (nI s)), some (.int (nI l)), some (.int (nI f)), some (.int (nI 0)), some (.int (nI i))] [] (MH E h w D) := by
  intro n
  induction n with
  | zero =>
    intro i D h1 h2 hI
    omega
  | succ n ih =>
    intro i D h1 h2 hI
    refine px_iload dX6_film_64 rfl ?_
    refine px_iload_n dX6_film_66 rfl ?_
    refine px_icmp_geN 109 dX6_film_67 (by decide) (by omega) (by omega) (fun c67 => ?_) (fun c67 => ?_)
    · refine px_iload_n dX6_film_109 rfl ?_
      have hi : i = k := by omega
      subst hi
      exact px_iret dX6_film_110 rfl rfl rfl ⟨rfl, D, hI.1, rfl⟩
    · refine px_aload_n dX6_film_70 rfl ?_
      refine px_aload_n dX6_film_71 rfl ?_
      refine px_get xk_X6 8 dX6_film_72 (Or.inl fl_X6_26) MH_obj (by decide) rfl ?_
      refine px_iconst (v := nI 0) dX6_film_75 (by decide) ?_
      refine px_callV (M2 := mX6_nightIn) (c_nightT hI (by rw [(tnights_s i).2.2]; omega) (nI 0) hm0 hb0) mw_X6_nightIn wm_X6_nightIn we_X6_nightIn (Or.inl ml_X6_126) dX6_film_76 MH_obj rfl (by decide) rfl rfl (Nat.le_of_ble_eq_true rfl) ⟨Nat.zero_le _, Nat.zero_le _⟩ (fun v h2 hq => ?_)
      obtain ⟨rfl, D1, hI1, rfl⟩ := hq
      refine px_aload_n dX6_film_79 rfl ?_
      refine px_get xk_X6 2 dX6_film_80 (Or.inl fl_X6_16) MH_obj (by decide) rfl ?_
      refine px_bipush (v := nI 24) dX6_film_83 (by decide) ?_
      refine px_iload_n dX6_film_85 rfl ?_
      refine px_imulN dX6_film_86 ?_
      refine px_iload dX6_film_87 rfl ?_
      refine px_iaddN dX6_film_89 ?_
      refine px_iload dX6_film_90 rfl ?_
      refine px_iaddN dX6_film_92 ?_
      refine px_aload_n dX6_film_93 rfl ?_
      refine px_get xk_X6 8 dX6_film_94 (Or.inl fl_X6_26) MH_obj (by decide) rfl ?_
      refine px_iconst (v := nI 2) dX6_film_97 (by decide) ?_
      refine px_iload_n dX6_film_98 rfl ?_
      refine px_iaddN dX6_film_99 ?_
      refine px_bL (b := 1) rfl dX6_film_100 (by decide) (by omega) (hI1.2.1.de (show a < (tnights (O.1.1 0) hm0 (i + 1)).2 0 by rw [(tnights_s (i + 1)).1]; exact ha)) ?_
      refine px_i2l dX6_film_101 ?_
      refine px_itW dX6_film_102 (by omega) ?_
      refine px_inc_7 dX6_film_103 rfl (nI_1 _) (by decide) rfl ?_
      refine px_goto 64 dX6_film_106 (by decide) ?_
      exact ih (i + 1) _ (by omega) (by omega) ⟨film_step hI1.1 hs (by omega) (hI1.2.2.2.2.2.1 a), hI1.2.1, hI1.2.2⟩
set_option maxHeartbeats 4000000 in
set_option maxRecDepth 100000 in
theorem c_X6_film_n {E : xE} {h : xHp} {w : Nat} {D : xMd} {O : xO} (hR : Rel O D) (x k s l i : Int32) (hx : ¬ ((0 ≤ x ∧ x < nI ((O.1.1 0).2 0)) ∧ (nI 1 ≤ k ∧ k ≤ nI 24) ∧ (0 ≤ s ∧ s < nI 4) ∧ (0 ≤ l ∧ l < nI 4))) : PMX E mX6_film [.ref w, .int x, .int k, .int s, .int l, .int i] h w D (-1) O := by
  have R := hR.1.1
  have hOK := hR.1.2.1.1
  have hm6 := hOK.1.1
  have hm4 := hOK.1.2.1
  have hN9 := hR.1.2.1.2
  refine pm_of [some (.ref w), some (.int x), some (.int k), some (.int s), some (.int l), some (.int i), none, none] (by decide +kernel) (Nat.le_of_ble_eq_true rfl) rfl ?_
  refine px_aload_n dX6_film_0 rfl ?_
  refine px_iload_n dX6_film_1 rfl ?_
  refine px_vi (M2 := mX6_isOne) (c_X6_isOne R hOK x) mw_X6_isOne wm_X6_isOne we_X6_isOne (Or.inl ml_X6_58) dX6_film_2 (MH_obj) rfl (by decide) rfl rfl (Nat.le_of_ble_eq_true rfl) ⟨rfl, rfl⟩ ?_
  refine px_if_eqB 35 dX6_film_5 (by decide) (fun c5 => ?_) (fun c5 => ?_)
  · refine px_iconst (v := -1) dX6_film_35 (by decide) ?_
    exact px_iret dX6_film_36 rfl rfl rfl ⟨rfl, D, hR, rfl⟩
  · refine px_iload_n dX6_film_8 rfl ?_
    refine px_iconst (v := nI 1) dX6_film_9 (by decide) ?_
    refine px_bipush (v := nI 24) dX6_film_10 (by decide) ?_
    refine px_si (c_X6_in (k) (nI 1) (nI 24)) mw_X6_in wt_X6_in (Or.inl ml_X6_38) dX6_film_12 (by decide) rfl rfl (Nat.le_of_ble_eq_true rfl) ⟨rfl, rfl⟩ ?_
    refine px_if_eqB 35 dX6_film_15 (by decide) (fun c15 => ?_) (fun c15 => ?_)
    · refine px_iconst (v := -1) dX6_film_35 (by decide) ?_
      exact px_iret dX6_film_36 rfl rfl rfl ⟨rfl, D, hR, rfl⟩
    · refine px_iload_n dX6_film_18 rfl ?_
      refine px_si (c_X6_isSheet s) mw_X6_isSheet wt_X6_isSheet (Or.inl ml_X6_162) dX6_film_19 (by decide) rfl rfl (Nat.le_of_ble_eq_true rfl) ⟨rfl, rfl⟩ ?_
      refine px_if_eqB 35 dX6_film_22 (by decide) (fun c22 => ?_) (fun c22 => ?_)
      · refine px_iconst (v := -1) dX6_film_35 (by decide) ?_
        exact px_iret dX6_film_36 rfl rfl rfl ⟨rfl, D, hR, rfl⟩
      · refine px_iload dX6_film_25 rfl ?_
        refine px_iconst (v := nI 0) dX6_film_27 (by decide) ?_
        refine px_iconst (v := nI 3) dX6_film_28 (by decide) ?_
        refine px_si (c_X6_inL l) mw_X6_in wt_X6_in (Or.inl ml_X6_38) dX6_film_29 (by decide) rfl rfl (Nat.le_of_ble_eq_true rfl) ⟨rfl, rfl⟩ ?_
        refine px_if_neB 37 dX6_film_32 (by decide) (fun c32 => ?_) (fun c32 => ?_)
        · exact absurd ⟨of_decide_eq_true c5, of_decide_eq_true c15, of_decide_eq_true c22, of_decide_eq_true c32⟩ hx
        · refine px_iconst (v := -1) dX6_film_35 (by decide) ?_
          exact px_iret dX6_film_36 rfl rfl rfl ⟨rfl, D, hR, rfl⟩
set_option maxHeartbeats 4000000 in
set_option maxRecDepth 100000 in
theorem c_X6_film_r {E : xE} {h : xHp} {w : Nat} {D : xMd} {O : xO} (hR : Rel O D) (a k s l : Nat) (i : Int32) (ha : a < (O.1.1 0).2 0) (hs : s < 4) (hl : l < 4) (h1 : 1 ≤ k) (hk : k ≤ 24) (hr : sref (O.2.1 s) (nI l) i (nI k) < 0) : PMX E mX6_film [.ref w, .int (nI a), .int (nI k), .int (nI s), .int (nI l), .int i] h w D (sref (O.2.1 s) (nI l) i (nI k)) O := by
  have R := hR.1.1
  have hOK := hR.1.2.1.1
  have hm6 := hOK.1.1
  have hm4 := hOK.1.2.1
  have hN9 := hR.1.2.1.2
  refine pm_of [some (.ref w), some (.int (nI a)), some (.int (nI k)), some (.int (nI s)), some (.int (nI l)), some (.int i), none, none] (by decide +kernel) (Nat.le_of_ble_eq_true rfl) rfl ?_
  refine px_aload_n dX6_film_0 rfl ?_
  refine px_iload_n dX6_film_1 rfl ?_
  refine px_vi (M2 := mX6_isOne) (c_m1_y R hOK ha) mw_X6_isOne wm_X6_isOne we_X6_isOne (Or.inl ml_X6_58) dX6_film_2 (MH_obj) rfl (by decide) rfl rfl (Nat.le_of_ble_eq_true rfl) ⟨rfl, rfl⟩ ?_
  refine px_if_eqB 35 dX6_film_5 (by decide) (fun c5 => ?_) (fun c5 => ?_)
  · cases c5
  · refine px_iload_n dX6_film_8 rfl ?_
    refine px_iconst (v := nI 1) dX6_film_9 (by decide) ?_
    refine px_bipush (v := nI 24) dX6_film_10 (by decide) ?_
    refine px_si (c_X6_in (nI k) (nI 1) (nI 24)) mw_X6_in wt_X6_in (Or.inl ml_X6_38) dX6_film_12 (by decide) rfl rfl (Nat.le_of_ble_eq_true rfl) ⟨rfl, rfl⟩ ?_
    refine px_if_eqB 35 dX6_film_15 (by decide) (fun c15 => ?_) (fun c15 => ?_)
    · rw [in_t (by omega) (by omega) (by decide)] at c15
      cases c15
    · refine px_iload_n dX6_film_18 rfl ?_
      refine px_si (c_ms_y hs) mw_X6_isSheet wt_X6_isSheet (Or.inl ml_X6_162) dX6_film_19 (by decide) rfl rfl (Nat.le_of_ble_eq_true rfl) ⟨rfl, rfl⟩ ?_
      refine px_if_eqB 35 dX6_film_22 (by decide) (fun c22 => ?_) (fun c22 => ?_)
      · cases c22
      · refine px_iload dX6_film_25 rfl ?_
        refine px_iconst (v := nI 0) dX6_film_27 (by decide) ?_
        refine px_iconst (v := nI 3) dX6_film_28 (by decide) ?_
        refine px_si (c_ml_y hl) mw_X6_in wt_X6_in (Or.inl ml_X6_38) dX6_film_29 (by decide) rfl rfl (Nat.le_of_ble_eq_true rfl) ⟨rfl, rfl⟩ ?_
        refine px_if_neB 37 dX6_film_32 (by decide) (fun c32 => ?_) (fun c32 => ?_)
        · refine px_aload_n dX6_film_37 rfl ?_
          refine px_iload_n dX6_film_38 rfl ?_
          refine px_iload dX6_film_39 rfl ?_
          refine px_iload dX6_film_41 rfl ?_
          refine px_iload_n dX6_film_43 rfl ?_
          refine px_vi (M2 := mX6_wrong) (c_X6_wrong hR s hs (nI l) i (nI k)) mw_X6_wrong wm_X6_wrong we_X6_wrong (Or.inl ml_X6_165) dX6_film_44 (MH_obj) rfl (by decide) rfl rfl (Nat.le_of_ble_eq_true rfl) ⟨rfl, rfl⟩ ?_
          refine px_ist_6 dX6_film_47 (by decide) rfl ?_
          refine px_iload dX6_film_49 rfl ?_
          refine px_if_eq 57 dX6_film_51 (by decide) (fun c51 => ?_) (fun c51 => ?_)
          · exact absurd hr (by rw [c51]; decide)
          · refine px_iload dX6_film_54 rfl ?_
            exact px_iret dX6_film_56 rfl rfl rfl ⟨rfl, D, hR, rfl⟩
        · cases c32
set_option maxHeartbeats 4000000 in
set_option maxRecDepth 100000 in
theorem c_X6_film {E : xE} {h : xHp} {w : Nat} {D : xMd} {O : xO} (hR : Rel O D) (a k s l f : Nat) (ha : a < (O.1.1 0).2 0) (hs : s < 4) (hl : l < 4) (h1 : 1 ≤ k) (hk : k ≤ 24) (hL : (O.2.1 s).2.1 = nI l) (hz : (O.2.1 s).2.2 ≤ 24) (hf : f + k ≤ (O.2.1 s).2.2) : PMX E mX6_film [.ref w, .int (nI a), .int (nI k), .int (nI s), .int (nI l), .int (nI f)] h w D (nI k) (oS O s (stell (O.1.1 0) a (O.2.1 s) f k)) := by
  have R := hR.1.1
  have hOK := hR.1.2.1.1
  have hm6 := hOK.1.1
  have hm4 := hOK.1.2.1
  have hN9 := hR.1.2.1.2
  refine pm_of [some (.ref w), some (.int (nI a)), some (.int (nI k)), some (.int (nI s)), some (.int (nI l)), some (.int (nI f)), none, none] (by decide +kernel) (Nat.le_of_ble_eq_true rfl) rfl ?_
  refine px_aload_n dX6_film_0 rfl ?_
  refine px_iload_n dX6_film_1 rfl ?_
  refine px_vi (M2 := mX6_isOne) (c_m1_y R hOK ha) mw_X6_isOne wm_X6_isOne we_X6_isOne (Or.inl ml_X6_58) dX6_film_2 (MH_obj) rfl (by decide) rfl rfl (Nat.le_of_ble_eq_true rfl) ⟨rfl, rfl⟩ ?_
  refine px_if_eqB 35 dX6_film_5 (by decide) (fun c5 => ?_) (fun c5 => ?_)
  · cases c5
  · refine px_iload_n dX6_film_8 rfl ?_
    refine px_iconst (v := nI 1) dX6_film_9 (by decide) ?_
    refine px_bipush (v := nI 24) dX6_film_10 (by decide) ?_
    refine px_si (c_X6_in (nI k) (nI 1) (nI 24)) mw_X6_in wt_X6_in (Or.inl ml_X6_38) dX6_film_12 (by decide) rfl rfl (Nat.le_of_ble_eq_true rfl) ⟨rfl, rfl⟩ ?_
    refine px_if_eqB 35 dX6_film_15 (by decide) (fun c15 => ?_) (fun c15 => ?_)
    · rw [in_t (by omega) (by omega) (by decide)] at c15
      cases c15
    · refine px_iload_n dX6_film_18 rfl ?_
      refine px_si (c_ms_y hs) mw_X6_isSheet wt_X6_isSheet (Or.inl ml_X6_162) dX6_film_19 (by decide) rfl rfl (Nat.le_of_ble_eq_true rfl) ⟨rfl, rfl⟩ ?_
      refine px_if_eqB 35 dX6_film_22 (by decide) (fun c22 => ?_) (fun c22 => ?_)
      · cases c22
      · refine px_iload dX6_film_25 rfl ?_
        refine px_iconst (v := nI 0) dX6_film_27 (by decide) ?_
        refine px_iconst (v := nI 3) dX6_film_28 (by decide) ?_
        refine px_si (c_ml_y hl) mw_X6_in wt_X6_in (Or.inl ml_X6_38) dX6_film_29 (by decide) rfl rfl (Nat.le_of_ble_eq_true rfl) ⟨rfl, rfl⟩ ?_
        refine px_if_neB 37 dX6_film_32 (by decide) (fun c32 => ?_) (fun c32 => ?_)
        · refine px_aload_n dX6_film_37 rfl ?_
          refine px_iload_n dX6_film_38 rfl ?_
          refine px_iload dX6_film_39 rfl ?_
          refine px_iload dX6_film_41 rfl ?_
          refine px_iload_n dX6_film_43 rfl ?_
          refine px_vi (M2 := mX6_wrong) (c_wr_y hR hs hl hL hz hf) mw_X6_wrong wm_X6_wrong we_X6_wrong (Or.inl ml_X6_165) dX6_film_44 (MH_obj) rfl (by decide) rfl rfl (Nat.le_of_ble_eq_true rfl) ⟨rfl, rfl⟩ ?_
          refine px_ist_6 dX6_film_47 (by decide) rfl ?_
          refine px_iload dX6_film_49 rfl ?_
          refine px_if_eq 57 dX6_film_51 (by decide) (fun _ => ?_) (fun z => absurd z (by decide))
          refine px_aload_n dX6_film_57 rfl ?_
          refine px_callV (M2 := mX6_begin) (c_X6_begin hR) mw_X6_begin wm_X6_begin we_X6_begin (Or.inl ml_X6_141) dX6_film_58 MH_obj rfl (by decide) rfl rfl (Nat.le_of_ble_eq_true rfl) ⟨Nat.zero_le _, Nat.zero_le _⟩ (fun v h2 hq => ?_)
          obtain ⟨rfl, D1, hI1, rfl⟩ := hq
          refine px_iconst (v := nI 0) dX6_film_61 (by decide) ?_
          refine px_ist_7 dX6_film_62 (by decide) rfl ?_
          exact l_X6_film a k s l f ha hm6 hN9 hs (by omega) (k + 1) 0 D1 (Nat.zero_le _) (by omega) (by show Tri (oS O s (O.2.1 s)) D1 _; rw [oS_self]; exact hI1)
        · cases c32
set_option maxHeartbeats 4000000 in
set_option maxRecDepth 100000 in
theorem l_X6_sheet {E : xE} {h : xHp} {w : Nat} {D : xMd} {O : xO} (hR : Rel O D) (s l k : Nat) (hs : s < 4) (hl : l < 4) (hk : k ≤ 24) : ∀ (n i : Nat), i ≤ 24 → 25 ≤ i + n → PW E mX6_sheet (fun v h1 => v = some (.int (nI k)) ∧ ∃ D', Rel (oS O s (szero 24 (O.2.1 s).1, nI l, k)) D' ∧ h1 = MH E h w D') 0 0 48 [some (.ref w), some (.int (nI s)), some (.int (nI l)), some (.int (nI k)), some (.int (nI i))] [] (MH E h w (sIt (shD D s l k) (itz (mIt D) s i))) := by
  intro n
  induction n with
  | zero =>
    intro i h1 h2
    omega
  | succ n ih =>
    intro i h1 h2
    refine px_iload dX6_sheet_48 rfl ?_
    refine px_bipush (v := nI 24) dX6_sheet_50 (by decide) ?_
    refine px_icmp_geN 74 dX6_sheet_52 (by decide) (by omega) (by omega) (fun c52 => ?_) (fun c52 => ?_)
    · refine px_iload_n dX6_sheet_74 rfl ?_
      have hi : i = 24 := by omega
      subst hi
      exact px_iret dX6_sheet_75 rfl rfl rfl ⟨rfl, _, hR.sheet hs hl hk, rfl⟩
    · refine px_aload_n dX6_sheet_55 rfl ?_
      refine px_get xk_X6 2 dX6_sheet_56 (Or.inl fl_X6_16) MH_obj (by decide) rfl ?_
      refine px_bipush (v := nI 24) dX6_sheet_59 (by decide) ?_
      refine px_iload_n dX6_sheet_61 rfl ?_
      refine px_imulN dX6_sheet_62 ?_
      refine px_iload dX6_sheet_63 rfl ?_
      refine px_iaddN dX6_sheet_65 ?_
      refine px_lconst (v := lN 0) dX6_sheet_66 (by decide) ?_
      refine px_itW dX6_sheet_67 (by omega) (px_heap (h2 := MH E h w (sIt (shD D s l k) (itz (mIt D) s (i + 1)))) (by show MH E h w (sIt (shD D s l k) (va_up (itz (mIt D) s i) (24 * s + i) (lN 0))) = _; rw [itz_s]) ?_)
      refine px_inc_4 dX6_sheet_68 rfl (nI_1 _) (by decide) rfl ?_
      refine px_goto 48 dX6_sheet_71 (by decide) ?_
      exact ih (i + 1) (by omega) (by omega)
set_option maxHeartbeats 4000000 in
set_option maxRecDepth 100000 in
theorem c_X6_sheet_n {E : xE} {h : xHp} {w : Nat} {D : xMd} {O : xO} (hR : Rel O D) (s l k : Int32) (hx : ¬ ((0 ≤ s ∧ s < nI 4) ∧ (0 ≤ l ∧ l < nI 4) ∧ k ≤ nI 24)) : PMX E mX6_sheet [.ref w, .int s, .int l, .int k] h w D (-1) O := by
  have R := hR.1.1
  have hOK := hR.1.2.1.1
  have hm6 := hOK.1.1
  have hm4 := hOK.1.2.1
  have hN9 := hR.1.2.1.2
  refine pm_of [some (.ref w), some (.int s), some (.int l), some (.int k), none] (by decide +kernel) (Nat.le_of_ble_eq_true rfl) rfl ?_
  refine px_iload_n dX6_sheet_0 rfl ?_
  refine px_si (c_X6_isSheet s) mw_X6_isSheet wt_X6_isSheet (Or.inl ml_X6_162) dX6_sheet_1 (by decide) rfl rfl (Nat.le_of_ble_eq_true rfl) ⟨rfl, rfl⟩ ?_
  refine px_if_eqB 22 dX6_sheet_4 (by decide) (fun c4 => ?_) (fun c4 => ?_)
  · refine px_iconst (v := -1) dX6_sheet_22 (by decide) ?_
    exact px_iret dX6_sheet_23 rfl rfl rfl ⟨rfl, D, hR, rfl⟩
  · refine px_iload_n dX6_sheet_7 rfl ?_
    refine px_iconst (v := nI 0) dX6_sheet_8 (by decide) ?_
    refine px_iconst (v := nI 3) dX6_sheet_9 (by decide) ?_
    refine px_si (c_X6_inL l) mw_X6_in wt_X6_in (Or.inl ml_X6_38) dX6_sheet_10 (by decide) rfl rfl (Nat.le_of_ble_eq_true rfl) ⟨rfl, rfl⟩ ?_
    refine px_if_eqB 22 dX6_sheet_13 (by decide) (fun c13 => ?_) (fun c13 => ?_)
    · refine px_iconst (v := -1) dX6_sheet_22 (by decide) ?_
      exact px_iret dX6_sheet_23 rfl rfl rfl ⟨rfl, D, hR, rfl⟩
    · refine px_iload_n dX6_sheet_16 rfl ?_
      refine px_bipush (v := nI 24) dX6_sheet_17 (by decide) ?_
      refine px_icmp_le 24 dX6_sheet_19 (by decide) (fun c19 => ?_) (fun c19 => ?_)
      · exact absurd ⟨of_decide_eq_true c4, of_decide_eq_true c13, c19⟩ hx
      · refine px_iconst (v := -1) dX6_sheet_22 (by decide) ?_
        exact px_iret dX6_sheet_23 rfl rfl rfl ⟨rfl, D, hR, rfl⟩
set_option maxHeartbeats 4000000 in
set_option maxRecDepth 100000 in
theorem c_X6_sheet_z {E : xE} {h : xHp} {w : Nat} {D : xMd} {O : xO} (hR : Rel O D) (s l : Nat) (k : Int32) (hs : s < 4) (hl : l < 4) (hk : k < 0) : PMX E mX6_sheet [.ref w, .int (nI s), .int (nI l), .int k] h w D (-14) O := by
  have R := hR.1.1
  have hOK := hR.1.2.1.1
  have hm6 := hOK.1.1
  have hm4 := hOK.1.2.1
  have hN9 := hR.1.2.1.2
  refine pm_of [some (.ref w), some (.int (nI s)), some (.int (nI l)), some (.int k), none] (by decide +kernel) (Nat.le_of_ble_eq_true rfl) rfl ?_
  refine px_iload_n dX6_sheet_0 rfl ?_
  refine px_si (c_ms_y hs) mw_X6_isSheet wt_X6_isSheet (Or.inl ml_X6_162) dX6_sheet_1 (by decide) rfl rfl (Nat.le_of_ble_eq_true rfl) ⟨rfl, rfl⟩ ?_
  refine px_if_eqB 22 dX6_sheet_4 (by decide) (fun c4 => ?_) (fun c4 => ?_)
  · cases c4
  · refine px_iload_n dX6_sheet_7 rfl ?_
    refine px_iconst (v := nI 0) dX6_sheet_8 (by decide) ?_
    refine px_iconst (v := nI 3) dX6_sheet_9 (by decide) ?_
    refine px_si (c_ml_y hl) mw_X6_in wt_X6_in (Or.inl ml_X6_38) dX6_sheet_10 (by decide) rfl rfl (Nat.le_of_ble_eq_true rfl) ⟨rfl, rfl⟩ ?_
    refine px_if_eqB 22 dX6_sheet_13 (by decide) (fun c13 => ?_) (fun c13 => ?_)
    · cases c13
    · refine px_iload_n dX6_sheet_16 rfl ?_
      refine px_bipush (v := nI 24) dX6_sheet_17 (by decide) ?_
      refine px_icmp_le 24 dX6_sheet_19 (by decide) (fun c19 => ?_) (fun c19 => ?_)
      · refine px_iload_n dX6_sheet_24 rfl ?_
        refine px_if_ge 31 dX6_sheet_25 (by decide) (fun c25 => ?_) (fun c25 => ?_)
        · exact absurd hk (Int32.not_lt.mpr c25)
        · refine px_bipush (v := -14) dX6_sheet_28 (by decide) ?_
          exact px_iret dX6_sheet_30 rfl rfl rfl ⟨rfl, D, hR, rfl⟩
      · exact absurd (Int32.le_of_lt (Int32.lt_of_lt_of_le hk (show (0 : Int32) ≤ nI 24 by decide))) c19
set_option maxHeartbeats 4000000 in
set_option maxRecDepth 100000 in
theorem c_X6_sheet {E : xE} {h : xHp} {w : Nat} {D : xMd} {O : xO} (hR : Rel O D) (s l k : Nat) (hs : s < 4) (hl : l < 4) (hk : k ≤ 24) : PMX E mX6_sheet [.ref w, .int (nI s), .int (nI l), .int (nI k)] h w D (nI k) (oS O s (szero 24 (O.2.1 s).1, nI l, k)) := by
  have R := hR.1.1
  have hOK := hR.1.2.1.1
  have hm6 := hOK.1.1
  have hm4 := hOK.1.2.1
  have hN9 := hR.1.2.1.2
  refine pm_of [some (.ref w), some (.int (nI s)), some (.int (nI l)), some (.int (nI k)), none] (by decide +kernel) (Nat.le_of_ble_eq_true rfl) rfl ?_
  refine px_iload_n dX6_sheet_0 rfl ?_
  refine px_si (c_ms_y hs) mw_X6_isSheet wt_X6_isSheet (Or.inl ml_X6_162) dX6_sheet_1 (by decide) rfl rfl (Nat.le_of_ble_eq_true rfl) ⟨rfl, rfl⟩ ?_
  refine px_if_eqB 22 dX6_sheet_4 (by decide) (fun c4 => ?_) (fun c4 => ?_)
  · cases c4
  · refine px_iload_n dX6_sheet_7 rfl ?_
    refine px_iconst (v := nI 0) dX6_sheet_8 (by decide) ?_
    refine px_iconst (v := nI 3) dX6_sheet_9 (by decide) ?_
    refine px_si (c_ml_y hl) mw_X6_in wt_X6_in (Or.inl ml_X6_38) dX6_sheet_10 (by decide) rfl rfl (Nat.le_of_ble_eq_true rfl) ⟨rfl, rfl⟩ ?_
    refine px_if_eqB 22 dX6_sheet_13 (by decide) (fun c13 => ?_) (fun c13 => ?_)
    · cases c13
    · refine px_iload_n dX6_sheet_16 rfl ?_
      refine px_bipush (v := nI 24) dX6_sheet_17 (by decide) ?_
      refine px_icmp_leN 24 dX6_sheet_19 (by decide) (by first | omega | exact hOK.lt (by decide) | exact hOK.lts (by decide)) (by first | omega | exact hOK.lt (by decide) | exact hOK.lts (by decide)) (fun c19 => ?_) (fun c19 => ?_)
      · refine px_iload_n dX6_sheet_24 rfl ?_
        refine px_if_geN 31 dX6_sheet_25 (by decide) (by first | omega | exact hOK.lt (by decide) | exact hOK.lts (by decide)) ?_
        refine px_aload_n dX6_sheet_31 rfl ?_
        refine px_get xk_X6 0 dX6_sheet_32 (Or.inl fl_X6_7) MH_obj (by decide) rfl ?_
        refine px_iload_n dX6_sheet_35 rfl ?_
        refine px_iload_n dX6_sheet_36 rfl ?_
        refine px_laW dX6_sheet_37 (by omega) ?_
        refine px_aload_n dX6_sheet_38 rfl ?_
        refine px_get xk_X6 1 dX6_sheet_39 (Or.inl fl_X6_13) MH_obj (by decide) rfl ?_
        refine px_iload_n dX6_sheet_42 rfl ?_
        refine px_iload_n dX6_sheet_43 rfl ?_
        refine px_szW dX6_sheet_44 (by omega) ?_
        refine px_iconst (v := nI 0) dX6_sheet_45 (by decide) ?_
        refine px_ist_4 dX6_sheet_46 (by decide) rfl ?_
        refine px_heap (h2 := MH E h w (sIt (shD D s l k) (itz (mIt D) s 0))) (by rw [itz_0]; rfl) ?_
        exact l_X6_sheet hR s l k hs hl hk 25 0 (by omega) (by omega)
      · omega
set_option maxHeartbeats 4000000 in
set_option maxRecDepth 100000 in
theorem c_X6_drop_n {E : xE} {h : xHp} {w : Nat} {D : xMd} {O : xO} (hR : Rel O D) (s : Int32) (hx : ¬ ((0 ≤ s ∧ s < nI 4))) : PMX E mX6_drop [.ref w, .int s] h w D (-1) O := by
  have R := hR.1.1
  have hOK := hR.1.2.1.1
  have hm6 := hOK.1.1
  have hm4 := hOK.1.2.1
  have hN9 := hR.1.2.1.2
  refine pm_of [some (.ref w), some (.int s)] (by decide +kernel) (Nat.le_of_ble_eq_true rfl) rfl ?_
  refine px_iload_n dX6_drop_0 rfl ?_
  refine px_si (c_X6_isSheet s) mw_X6_isSheet wt_X6_isSheet (Or.inl ml_X6_162) dX6_drop_1 (by decide) rfl rfl (Nat.le_of_ble_eq_true rfl) ⟨rfl, rfl⟩ ?_
  refine px_if_neB 9 dX6_drop_4 (by decide) (fun c4 => ?_) (fun c4 => ?_)
  · exact absurd (of_decide_eq_true c4) hx
  · refine px_iconst (v := -1) dX6_drop_7 (by decide) ?_
    exact px_iret dX6_drop_8 rfl rfl rfl ⟨rfl, D, hR, rfl⟩
set_option maxHeartbeats 4000000 in
set_option maxRecDepth 100000 in
theorem c_X6_drop_o {E : xE} {h : xHp} {w : Nat} {D : xMd} {O : xO} (hR : Rel O D) (s : Nat) (hs : s < 4) (hn : (O.2.1 s).2.1 = -1) : PMX E mX6_drop [.ref w, .int (nI s)] h w D (-11) O := by
  have R := hR.1.1
  have hOK := hR.1.2.1.1
  have hm6 := hOK.1.1
  have hm4 := hOK.1.2.1
  have hN9 := hR.1.2.1.2
  refine pm_of [some (.ref w), some (.int (nI s))] (by decide +kernel) (Nat.le_of_ble_eq_true rfl) rfl ?_
  refine px_iload_n dX6_drop_0 rfl ?_
  refine px_si (c_ms_y hs) mw_X6_isSheet wt_X6_isSheet (Or.inl ml_X6_162) dX6_drop_1 (by decide) rfl rfl (Nat.le_of_ble_eq_true rfl) ⟨rfl, rfl⟩ ?_
  refine px_if_neB 9 dX6_drop_4 (by decide) (fun c4 => ?_) (fun c4 => ?_)
  · refine px_aload_n dX6_drop_9 rfl ?_
    refine px_get xk_X6 0 dX6_drop_10 (Or.inl fl_X6_7) MH_obj (by decide) rfl ?_
    refine px_iload_n dX6_drop_13 rfl ?_
    refine px_laL dX6_drop_14 (by omega) (px_topi (show mLa D s = -1 from (hR.2.2.1 s hs).1.trans hn) ?_)
    refine px_if_ge 21 dX6_drop_15 (by decide) (fun z => absurd z (by decide)) (fun _ => ?_)
    refine px_bipush (v := -11) dX6_drop_18 (by decide) ?_
    exact px_iret dX6_drop_20 rfl rfl rfl ⟨rfl, D, hR, rfl⟩
  · cases c4
set_option maxHeartbeats 4000000 in
set_option maxRecDepth 100000 in
theorem c_X6_drop {E : xE} {h : xHp} {w : Nat} {D : xMd} {O : xO} (hR : Rel O D) (s : Nat) (hs : s < 4) (hn : (O.2.1 s).2.1 ≠ -1) : PMX E mX6_drop [.ref w, .int (nI s)] h w D (nI (O.2.1 s).2.2) (oS O s ((O.2.1 s).1, -1, 0)) := by
  have R := hR.1.1
  have hOK := hR.1.2.1.1
  have hm6 := hOK.1.1
  have hm4 := hOK.1.2.1
  have hN9 := hR.1.2.1.2
  obtain ⟨l2, hl2, hla, hl3, hsz⟩ := rs_n (hR.2.2.1 s hs) hn
  refine pm_of [some (.ref w), some (.int (nI s))] (by decide +kernel) (Nat.le_of_ble_eq_true rfl) rfl ?_
  refine px_iload_n dX6_drop_0 rfl ?_
  refine px_si (c_ms_y hs) mw_X6_isSheet wt_X6_isSheet (Or.inl ml_X6_162) dX6_drop_1 (by decide) rfl rfl (Nat.le_of_ble_eq_true rfl) ⟨rfl, rfl⟩ ?_
  refine px_if_neB 9 dX6_drop_4 (by decide) (fun c4 => ?_) (fun c4 => ?_)
  · refine px_aload_n dX6_drop_9 rfl ?_
    refine px_get xk_X6 0 dX6_drop_10 (Or.inl fl_X6_7) MH_obj (by decide) rfl ?_
    refine px_iload_n dX6_drop_13 rfl ?_
    refine px_laL dX6_drop_14 (by omega) (px_topi hla ?_)
    refine px_if_geN 21 dX6_drop_15 (by decide) (by first | omega | exact hOK.lt (by decide) | exact hOK.lts (by decide)) ?_
    refine px_aload_n dX6_drop_21 rfl ?_
    refine px_get xk_X6 0 dX6_drop_22 (Or.inl fl_X6_7) MH_obj (by decide) rfl ?_
    refine px_iload_n dX6_drop_25 rfl ?_
    refine px_iconst (v := -1) dX6_drop_26 (by decide) ?_
    refine px_laW dX6_drop_27 (by omega) ?_
    refine px_aload_n dX6_drop_28 rfl ?_
    refine px_get xk_X6 1 dX6_drop_29 (Or.inl fl_X6_13) MH_obj (by decide) rfl ?_
    refine px_iload_n dX6_drop_32 rfl ?_
    refine px_szL dX6_drop_33 (by omega) (px_topi (show nI (mSz D s) = _ from congrArg nI hsz) ?_)
    exact px_iret dX6_drop_34 rfl rfl rfl ⟨rfl, _, hR.drop hs, rfl⟩
  · cases c4
set_option maxHeartbeats 4000000 in
set_option maxRecDepth 100000 in
theorem c_X6_item_n {E : xE} {h : xHp} {w : Nat} {D : xMd} {O : xO} (hR : Rel O D) (s l i : Int32) (v : Int64) (hx : ¬ ((0 ≤ s ∧ s < nI 4) ∧ (0 ≤ l ∧ l < nI 4))) : PMX E mX6_item [.ref w, .int s, .int l, .int i, .long v] h w D (-1) O := by
  have R := hR.1.1
  have hOK := hR.1.2.1.1
  have hm6 := hOK.1.1
  have hm4 := hOK.1.2.1
  have hN9 := hR.1.2.1.2
  refine pm_of [some (.ref w), some (.int s), some (.int l), some (.int i), some (.long v), none, none] (by decide +kernel) (Nat.le_of_ble_eq_true rfl) rfl ?_
  refine px_iload_n dX6_item_0 rfl ?_
  refine px_si (c_X6_isSheet s) mw_X6_isSheet wt_X6_isSheet (Or.inl ml_X6_162) dX6_item_1 (by decide) rfl rfl (Nat.le_of_ble_eq_true rfl) ⟨rfl, rfl⟩ ?_
  refine px_if_eqB 16 dX6_item_4 (by decide) (fun c4 => ?_) (fun c4 => ?_)
  · refine px_iconst (v := -1) dX6_item_16 (by decide) ?_
    exact px_iret dX6_item_17 rfl rfl rfl ⟨rfl, D, hR, rfl⟩
  · refine px_iload_n dX6_item_7 rfl ?_
    refine px_iconst (v := nI 0) dX6_item_8 (by decide) ?_
    refine px_iconst (v := nI 3) dX6_item_9 (by decide) ?_
    refine px_si (c_X6_inL l) mw_X6_in wt_X6_in (Or.inl ml_X6_38) dX6_item_10 (by decide) rfl rfl (Nat.le_of_ble_eq_true rfl) ⟨rfl, rfl⟩ ?_
    refine px_if_neB 18 dX6_item_13 (by decide) (fun c13 => ?_) (fun c13 => ?_)
    · exact absurd ⟨of_decide_eq_true c4, of_decide_eq_true c13⟩ hx
    · refine px_iconst (v := -1) dX6_item_16 (by decide) ?_
      exact px_iret dX6_item_17 rfl rfl rfl ⟨rfl, D, hR, rfl⟩
set_option maxHeartbeats 4000000 in
set_option maxRecDepth 100000 in
theorem c_X6_item_r {E : xE} {h : xHp} {w : Nat} {D : xMd} {O : xO} (hR : Rel O D) (s l : Nat) (i : Int32) (v : Int64) (hs : s < 4) (hl : l < 4) (hr : sref (O.2.1 s) (nI l) i (nI 1) < 0) : PMX E mX6_item [.ref w, .int (nI s), .int (nI l), .int i, .long v] h w D (sref (O.2.1 s) (nI l) i (nI 1)) O := by
  have R := hR.1.1
  have hOK := hR.1.2.1.1
  have hm6 := hOK.1.1
  have hm4 := hOK.1.2.1
  have hN9 := hR.1.2.1.2
  refine pm_of [some (.ref w), some (.int (nI s)), some (.int (nI l)), some (.int (i)), some (.long v), none, none] (by decide +kernel) (Nat.le_of_ble_eq_true rfl) rfl ?_
  refine px_iload_n dX6_item_0 rfl ?_
  refine px_si (c_ms_y hs) mw_X6_isSheet wt_X6_isSheet (Or.inl ml_X6_162) dX6_item_1 (by decide) rfl rfl (Nat.le_of_ble_eq_true rfl) ⟨rfl, rfl⟩ ?_
  refine px_if_eqB 16 dX6_item_4 (by decide) (fun c4 => ?_) (fun c4 => ?_)
  · cases c4
  · refine px_iload_n dX6_item_7 rfl ?_
    refine px_iconst (v := nI 0) dX6_item_8 (by decide) ?_
    refine px_iconst (v := nI 3) dX6_item_9 (by decide) ?_
    refine px_si (c_ml_y hl) mw_X6_in wt_X6_in (Or.inl ml_X6_38) dX6_item_10 (by decide) rfl rfl (Nat.le_of_ble_eq_true rfl) ⟨rfl, rfl⟩ ?_
    refine px_if_neB 18 dX6_item_13 (by decide) (fun c13 => ?_) (fun c13 => ?_)
    · refine px_aload_n dX6_item_18 rfl ?_
      refine px_iload_n dX6_item_19 rfl ?_
      refine px_iload_n dX6_item_20 rfl ?_
      refine px_iload_n dX6_item_21 rfl ?_
      refine px_iconst (v := nI 1) dX6_item_22 (by decide) ?_
      refine px_vi (M2 := mX6_wrong) (c_X6_wrong hR s hs (nI l) i (nI 1)) mw_X6_wrong wm_X6_wrong we_X6_wrong (Or.inl ml_X6_165) dX6_item_23 (MH_obj) rfl (by decide) rfl rfl (Nat.le_of_ble_eq_true rfl) ⟨rfl, rfl⟩ ?_
      refine px_ist_6 dX6_item_26 (by decide) rfl ?_
      refine px_iload dX6_item_28 rfl ?_
      refine px_if_eq 36 dX6_item_30 (by decide) (fun c30 => ?_) (fun c30 => ?_)
      · exact absurd hr (by rw [c30]; decide)
      · refine px_iload dX6_item_33 rfl ?_
        exact px_iret dX6_item_35 rfl rfl rfl ⟨rfl, D, hR, rfl⟩
    · cases c13
theorem Rel.itemS {O : xO} {D : xMd} {s i : Nat} {v u : Int64} (hR : Rel O D) (hs : s < 4) (hi : i < 24) (hu : scut (O.2.1 s).2.1 v = u) : Rel (oS O s (sput (O.2.1 s) i v)) (sIt D (va_up (mIt D) (24 * s + i) u)) := by
  subst hu
  exact hR.item hs hi
set_option maxHeartbeats 4000000 in
set_option maxRecDepth 100000 in
theorem c_X6_item {E : xE} {h : xHp} {w : Nat} {D : xMd} {O : xO} (hR : Rel O D) (s l f : Nat) (v : Int64) (hs : s < 4) (hl : l < 4) (hL : (O.2.1 s).2.1 = nI l) (hz : (O.2.1 s).2.2 ≤ 24) (hf : f + 1 ≤ (O.2.1 s).2.2) : PMX E mX6_item [.ref w, .int (nI s), .int (nI l), .int (nI f), .long v] h w D (nI 1) (oS O s (sput (O.2.1 s) f v)) := by
  have R := hR.1.1
  have hOK := hR.1.2.1.1
  have hm6 := hOK.1.1
  have hm4 := hOK.1.2.1
  have hN9 := hR.1.2.1.2
  refine pm_of [some (.ref w), some (.int (nI s)), some (.int (nI l)), some (.int (nI f)), some (.long v), none, none] (by decide +kernel) (Nat.le_of_ble_eq_true rfl) rfl ?_
  refine px_iload_n dX6_item_0 rfl ?_
  refine px_si (c_ms_y hs) mw_X6_isSheet wt_X6_isSheet (Or.inl ml_X6_162) dX6_item_1 (by decide) rfl rfl (Nat.le_of_ble_eq_true rfl) ⟨rfl, rfl⟩ ?_
  refine px_if_eqB 16 dX6_item_4 (by decide) (fun c4 => ?_) (fun c4 => ?_)
  · cases c4
  · refine px_iload_n dX6_item_7 rfl ?_
    refine px_iconst (v := nI 0) dX6_item_8 (by decide) ?_
    refine px_iconst (v := nI 3) dX6_item_9 (by decide) ?_
    refine px_si (c_ml_y hl) mw_X6_in wt_X6_in (Or.inl ml_X6_38) dX6_item_10 (by decide) rfl rfl (Nat.le_of_ble_eq_true rfl) ⟨rfl, rfl⟩ ?_
    refine px_if_neB 18 dX6_item_13 (by decide) (fun c13 => ?_) (fun c13 => ?_)
    · refine px_aload_n dX6_item_18 rfl ?_
      refine px_iload_n dX6_item_19 rfl ?_
      refine px_iload_n dX6_item_20 rfl ?_
      refine px_iload_n dX6_item_21 rfl ?_
      refine px_iconst (v := nI 1) dX6_item_22 (by decide) ?_
      refine px_vi (M2 := mX6_wrong) (c_wr_y hR hs hl hL hz hf) mw_X6_wrong wm_X6_wrong we_X6_wrong (Or.inl ml_X6_165) dX6_item_23 (MH_obj) rfl (by decide) rfl rfl (Nat.le_of_ble_eq_true rfl) ⟨rfl, rfl⟩ ?_
      refine px_ist_6 dX6_item_26 (by decide) rfl ?_
      refine px_iload dX6_item_28 rfl ?_
      refine px_if_eq 36 dX6_item_30 (by decide) (fun _ => ?_) (fun z => absurd z (by decide))
      refine px_aload_n dX6_item_36 rfl ?_
      refine px_get xk_X6 2 dX6_item_37 (Or.inl fl_X6_16) MH_obj (by decide) rfl ?_
      refine px_bipush (v := nI 24) dX6_item_40 (by decide) ?_
      refine px_iload_n dX6_item_42 rfl ?_
      refine px_imulN dX6_item_43 ?_
      refine px_iload_n dX6_item_44 rfl ?_
      refine px_iaddN dX6_item_45 ?_
      refine px_iload_n dX6_item_46 rfl ?_
      refine px_if_neN 58 dX6_item_47 (by decide) (by first | omega | exact hOK.lt (by decide) | exact hOK.lts (by decide)) (fun c47 => ?_) (fun c47 => ?_)
      · refine px_iload_n dX6_item_58 rfl ?_
        refine px_iconst (v := nI 1) dX6_item_59 (by decide) ?_
        refine px_icmp_neN 71 dX6_item_60 (by decide) (by first | omega | exact hOK.lt (by decide) | exact hOK.lts (by decide)) (by first | omega | exact hOK.lt (by decide) | exact hOK.lts (by decide)) (fun c60 => ?_) (fun c60 => ?_)
        · refine px_iload_n dX6_item_71 rfl ?_
          refine px_iconst (v := nI 2) dX6_item_72 (by decide) ?_
          refine px_icmp_neN 83 dX6_item_73 (by decide) (by first | omega | exact hOK.lt (by decide) | exact hOK.lts (by decide)) (by first | omega | exact hOK.lt (by decide) | exact hOK.lts (by decide)) (fun c73 => ?_) (fun c73 => ?_)
          · refine px_lload dX6_item_83 rfl ?_
            refine px_itW dX6_item_85 (by omega) ?_
            refine px_iconst (v := nI 1) dX6_item_86 (by decide) ?_
            exact px_iret dX6_item_87 rfl rfl rfl ⟨rfl, _, hR.itemS hs (by omega) (by rw [hL, show l = 3 by omega]; rfl), rfl⟩
          · refine px_lload dX6_item_76 rfl ?_
            refine px_l2i dX6_item_78 ?_
            refine px_i2l dX6_item_79 ?_
            refine px_goto 85 dX6_item_80 (by decide) ?_
            refine px_itW dX6_item_85 (by omega) ?_
            refine px_iconst (v := nI 1) dX6_item_86 (by decide) ?_
            exact px_iret dX6_item_87 rfl rfl rfl ⟨rfl, _, hR.itemS hs (by omega) (by rw [hL, c73]; rfl), rfl⟩
        · refine px_lload dX6_item_63 rfl ?_
          refine px_l2i dX6_item_65 ?_
          refine px_i2s dX6_item_66 ?_
          refine px_i2l dX6_item_67 ?_
          refine px_goto 85 dX6_item_68 (by decide) ?_
          refine px_itW dX6_item_85 (by omega) ?_
          refine px_iconst (v := nI 1) dX6_item_86 (by decide) ?_
          exact px_iret dX6_item_87 rfl rfl rfl ⟨rfl, _, hR.itemS hs (by omega) (by rw [hL, c60]; rfl), rfl⟩
      · refine px_lload dX6_item_50 rfl ?_
        refine px_l2i dX6_item_52 ?_
        refine px_i2b dX6_item_53 ?_
        refine px_i2l dX6_item_54 ?_
        refine px_goto 85 dX6_item_55 (by decide) ?_
        refine px_itW dX6_item_85 (by omega) ?_
        refine px_iconst (v := nI 1) dX6_item_86 (by decide) ?_
        exact px_iret dX6_item_87 rfl rfl rfl ⟨rfl, _, hR.itemS hs (by omega) (by rw [hL, c47]; rfl), rfl⟩
    · cases c13
set_option maxHeartbeats 4000000 in
set_option maxRecDepth 100000 in
theorem c_X6_copy_n {E : xE} {h : xHp} {w : Nat} {D : xMd} {O : xO} (hR : Rel O D) (s i t j k : Int32) (hx : ¬ ((0 ≤ s ∧ s < nI 4) ∧ (0 ≤ t ∧ t < nI 4))) : PMX E mX6_copy [.ref w, .int s, .int i, .int t, .int j, .int k] h w D (-1) O := by
  have R := hR.1.1
  have hOK := hR.1.2.1.1
  have hm6 := hOK.1.1
  have hm4 := hOK.1.2.1
  have hN9 := hR.1.2.1.2
  refine pm_of [some (.ref w), some (.int s), some (.int i), some (.int t), some (.int j), some (.int k), none, none, none] (by decide +kernel) (Nat.le_of_ble_eq_true rfl) rfl ?_
  refine px_iload_n dX6_copy_0 rfl ?_
  refine px_si (c_X6_isSheet s) mw_X6_isSheet wt_X6_isSheet (Or.inl ml_X6_162) dX6_copy_1 (by decide) rfl rfl (Nat.le_of_ble_eq_true rfl) ⟨rfl, rfl⟩ ?_
  refine px_if_eqB 14 dX6_copy_4 (by decide) (fun c4 => ?_) (fun c4 => ?_)
  · refine px_iconst (v := -1) dX6_copy_14 (by decide) ?_
    exact px_iret dX6_copy_15 rfl rfl rfl ⟨rfl, D, hR, rfl⟩
  · refine px_iload_n dX6_copy_7 rfl ?_
    refine px_si (c_X6_isSheet t) mw_X6_isSheet wt_X6_isSheet (Or.inl ml_X6_162) dX6_copy_8 (by decide) rfl rfl (Nat.le_of_ble_eq_true rfl) ⟨rfl, rfl⟩ ?_
    refine px_if_neB 16 dX6_copy_11 (by decide) (fun c11 => ?_) (fun c11 => ?_)
    · exact absurd ⟨of_decide_eq_true c4, of_decide_eq_true c11⟩ hx
    · refine px_iconst (v := -1) dX6_copy_14 (by decide) ?_
      exact px_iret dX6_copy_15 rfl rfl rfl ⟨rfl, D, hR, rfl⟩
set_option maxHeartbeats 4000000 in
set_option maxRecDepth 100000 in
theorem c_X6_copy_o {E : xE} {h : xHp} {w : Nat} {D : xMd} {O : xO} (hR : Rel O D) (s t : Nat) (i j k : Int32) (hs : s < 4) (ht : t < 4) (hn : ¬ ((O.2.1 s).2.1 ≠ -1 ∧ (O.2.1 t).2.1 ≠ -1)) : PMX E mX6_copy [.ref w, .int (nI s), .int i, .int (nI t), .int j, .int k] h w D (-11) O := by
  have R := hR.1.1
  have hOK := hR.1.2.1.1
  have hm6 := hOK.1.1
  have hm4 := hOK.1.2.1
  have hN9 := hR.1.2.1.2
  refine pm_of [some (.ref w), some (.int (nI s)), some (.int i), some (.int (nI t)), some (.int j), some (.int k), none, none, none] (by decide +kernel) (Nat.le_of_ble_eq_true rfl) rfl ?_
  refine px_iload_n dX6_copy_0 rfl ?_
  refine px_si (c_ms_y hs) mw_X6_isSheet wt_X6_isSheet (Or.inl ml_X6_162) dX6_copy_1 (by decide) rfl rfl (Nat.le_of_ble_eq_true rfl) ⟨rfl, rfl⟩ ?_
  refine px_if_eqB 14 dX6_copy_4 (by decide) (fun c4 => ?_) (fun c4 => ?_)
  · cases c4
  · refine px_iload_n dX6_copy_7 rfl ?_
    refine px_si (c_ms_y ht) mw_X6_isSheet wt_X6_isSheet (Or.inl ml_X6_162) dX6_copy_8 (by decide) rfl rfl (Nat.le_of_ble_eq_true rfl) ⟨rfl, rfl⟩ ?_
    refine px_if_neB 16 dX6_copy_11 (by decide) (fun c11 => ?_) (fun c11 => ?_)
    · rcases (hR.2.2.1 s hs).2.1 with hl1 | ⟨l2, hl2, hl3, hsz⟩
      · have hla : mLa D s = -1 := (hR.2.2.1 s hs).1.trans hl1
        refine px_aload_n dX6_copy_16 rfl ?_
        refine px_get xk_X6 0 dX6_copy_17 (Or.inl fl_X6_7) MH_obj (by decide) rfl ?_
        refine px_iload_n dX6_copy_20 rfl ?_
        refine px_laL dX6_copy_21 (by omega) (px_topi hla ?_)
        refine px_if_lt 34 dX6_copy_22 (by decide) (fun _ => ?_) (fun z => absurd z (by decide))
        refine px_bipush (v := -11) dX6_copy_34 (by decide) ?_
        exact px_iret dX6_copy_36 rfl rfl rfl ⟨rfl, D, hR, rfl⟩
      · have hla : mLa D s = nI l2 := (hR.2.2.1 s hs).1.trans hl3
        refine px_aload_n dX6_copy_16 rfl ?_
        refine px_get xk_X6 0 dX6_copy_17 (Or.inl fl_X6_7) MH_obj (by decide) rfl ?_
        refine px_iload_n dX6_copy_20 rfl ?_
        refine px_laL dX6_copy_21 (by omega) (px_topi hla ?_)
        refine px_if_ltN 34 dX6_copy_22 (by decide) (by first | omega | exact hOK.lt (by decide) | exact hOK.lts (by decide)) ?_
        rcases (hR.2.2.1 t ht).2.1 with hk1 | ⟨k2, hk2, hk3, hkz⟩
        · have hlb : mLa D t = -1 := (hR.2.2.1 t ht).1.trans hk1
          refine px_aload_n dX6_copy_25 rfl ?_
          refine px_get xk_X6 0 dX6_copy_26 (Or.inl fl_X6_7) MH_obj (by decide) rfl ?_
          refine px_iload_n dX6_copy_29 rfl ?_
          refine px_laL dX6_copy_30 (by omega) (px_topi hlb ?_)
          refine px_if_ge 37 dX6_copy_31 (by decide) (fun z => absurd z (by decide)) (fun _ => ?_)
          refine px_bipush (v := -11) dX6_copy_34 (by decide) ?_
          exact px_iret dX6_copy_36 rfl rfl rfl ⟨rfl, D, hR, rfl⟩
        · exact absurd ⟨(by rw [hl3]; exact nI_m1n (by omega)), (by rw [hk3]; exact nI_m1n (by omega))⟩ hn
    · cases c11
set_option maxHeartbeats 4000000 in
set_option maxRecDepth 100000 in
theorem c_X6_copy_c {E : xE} {h : xHp} {w : Nat} {D : xMd} {O : xO} (hR : Rel O D) (s t : Nat) (i j k : Int32) (hs : s < 4) (ht : t < 4) (hn : (O.2.1 s).2.1 ≠ -1 ∧ (O.2.1 t).2.1 ≠ -1) (hc : (O.2.1 s).2.1 ≠ (O.2.1 t).2.1) : PMX E mX6_copy [.ref w, .int (nI s), .int i, .int (nI t), .int j, .int k] h w D (-12) O := by
  have R := hR.1.1
  have hOK := hR.1.2.1.1
  have hm6 := hOK.1.1
  have hm4 := hOK.1.2.1
  have hN9 := hR.1.2.1.2
  obtain ⟨l2, hl2, hla, hl3, hsz⟩ := rs_n (hR.2.2.1 s hs) hn.1
  obtain ⟨k2, hk2, hlb, hk3, hkz⟩ := rs_n (hR.2.2.1 t ht) hn.2
  refine pm_of [some (.ref w), some (.int (nI s)), some (.int i), some (.int (nI t)), some (.int j), some (.int k), none, none, none] (by decide +kernel) (Nat.le_of_ble_eq_true rfl) rfl ?_
  refine px_iload_n dX6_copy_0 rfl ?_
  refine px_si (c_ms_y hs) mw_X6_isSheet wt_X6_isSheet (Or.inl ml_X6_162) dX6_copy_1 (by decide) rfl rfl (Nat.le_of_ble_eq_true rfl) ⟨rfl, rfl⟩ ?_
  refine px_if_eqB 14 dX6_copy_4 (by decide) (fun c4 => ?_) (fun c4 => ?_)
  · cases c4
  · refine px_iload_n dX6_copy_7 rfl ?_
    refine px_si (c_ms_y ht) mw_X6_isSheet wt_X6_isSheet (Or.inl ml_X6_162) dX6_copy_8 (by decide) rfl rfl (Nat.le_of_ble_eq_true rfl) ⟨rfl, rfl⟩ ?_
    refine px_if_neB 16 dX6_copy_11 (by decide) (fun c11 => ?_) (fun c11 => ?_)
    · refine px_aload_n dX6_copy_16 rfl ?_
      refine px_get xk_X6 0 dX6_copy_17 (Or.inl fl_X6_7) MH_obj (by decide) rfl ?_
      refine px_iload_n dX6_copy_20 rfl ?_
      refine px_laL dX6_copy_21 (by omega) (px_topi hla ?_)
      refine px_if_ltN 34 dX6_copy_22 (by decide) (by first | omega | exact hOK.lt (by decide) | exact hOK.lts (by decide)) ?_
      refine px_aload_n dX6_copy_25 rfl ?_
      refine px_get xk_X6 0 dX6_copy_26 (Or.inl fl_X6_7) MH_obj (by decide) rfl ?_
      refine px_iload_n dX6_copy_29 rfl ?_
      refine px_laL dX6_copy_30 (by omega) (px_topi hlb ?_)
      refine px_if_geN 37 dX6_copy_31 (by decide) (by first | omega | exact hOK.lt (by decide) | exact hOK.lts (by decide)) ?_
      refine px_aload_n dX6_copy_37 rfl ?_
      refine px_get xk_X6 0 dX6_copy_38 (Or.inl fl_X6_7) MH_obj (by decide) rfl ?_
      refine px_iload_n dX6_copy_41 rfl ?_
      refine px_laL dX6_copy_42 (by omega) (px_topi hla ?_)
      refine px_aload_n dX6_copy_43 rfl ?_
      refine px_get xk_X6 0 dX6_copy_44 (Or.inl fl_X6_7) MH_obj (by decide) rfl ?_
      refine px_iload_n dX6_copy_47 rfl ?_
      refine px_laL dX6_copy_48 (by omega) (px_topi hlb ?_)
      refine px_icmp_eqN 55 dX6_copy_49 (by decide) (by first | omega | exact hOK.lt (by decide) | exact hOK.lts (by decide)) (by first | omega | exact hOK.lt (by decide) | exact hOK.lts (by decide)) (fun c49 => ?_) (fun c49 => ?_)
      · exact absurd (by rw [hl3, hk3, c49]) hc
      · refine px_bipush (v := -12) dX6_copy_52 (by decide) ?_
        exact px_iret dX6_copy_54 rfl rfl rfl ⟨rfl, D, hR, rfl⟩
    · cases c11
set_option maxHeartbeats 4000000 in
set_option maxRecDepth 100000 in
theorem c_X6_copy_i {E : xE} {h : xHp} {w : Nat} {D : xMd} {O : xO} (hR : Rel O D) (s t : Nat) (i j k : Int32) (hs : s < 4) (ht : t < 4) (hn : (O.2.1 s).2.1 ≠ -1 ∧ (O.2.1 t).2.1 ≠ -1) (hc : (O.2.1 s).2.1 = (O.2.1 t).2.1) (hh : ¬ (shold (O.2.1 s) i k = true ∧ shold (O.2.1 t) j k = true)) : PMX E mX6_copy [.ref w, .int (nI s), .int i, .int (nI t), .int j, .int k] h w D (-13) O := by
  have R := hR.1.1
  have hOK := hR.1.2.1.1
  have hm6 := hOK.1.1
  have hm4 := hOK.1.2.1
  have hN9 := hR.1.2.1.2
  obtain ⟨l2, hl2, hla, hl3, hsz⟩ := rs_n (hR.2.2.1 s hs) hn.1
  obtain ⟨k2, hk2, hlb, hk3, hkz⟩ := rs_n (hR.2.2.1 t ht) hn.2
  refine pm_of [some (.ref w), some (.int (nI s)), some (.int i), some (.int (nI t)), some (.int j), some (.int k), none, none, none] (by decide +kernel) (Nat.le_of_ble_eq_true rfl) rfl ?_
  refine px_iload_n dX6_copy_0 rfl ?_
  refine px_si (c_ms_y hs) mw_X6_isSheet wt_X6_isSheet (Or.inl ml_X6_162) dX6_copy_1 (by decide) rfl rfl (Nat.le_of_ble_eq_true rfl) ⟨rfl, rfl⟩ ?_
  refine px_if_eqB 14 dX6_copy_4 (by decide) (fun c4 => ?_) (fun c4 => ?_)
  · cases c4
  · refine px_iload_n dX6_copy_7 rfl ?_
    refine px_si (c_ms_y ht) mw_X6_isSheet wt_X6_isSheet (Or.inl ml_X6_162) dX6_copy_8 (by decide) rfl rfl (Nat.le_of_ble_eq_true rfl) ⟨rfl, rfl⟩ ?_
    refine px_if_neB 16 dX6_copy_11 (by decide) (fun c11 => ?_) (fun c11 => ?_)
    · refine px_aload_n dX6_copy_16 rfl ?_
      refine px_get xk_X6 0 dX6_copy_17 (Or.inl fl_X6_7) MH_obj (by decide) rfl ?_
      refine px_iload_n dX6_copy_20 rfl ?_
      refine px_laL dX6_copy_21 (by omega) (px_topi hla ?_)
      refine px_if_ltN 34 dX6_copy_22 (by decide) (by first | omega | exact hOK.lt (by decide) | exact hOK.lts (by decide)) ?_
      refine px_aload_n dX6_copy_25 rfl ?_
      refine px_get xk_X6 0 dX6_copy_26 (Or.inl fl_X6_7) MH_obj (by decide) rfl ?_
      refine px_iload_n dX6_copy_29 rfl ?_
      refine px_laL dX6_copy_30 (by omega) (px_topi hlb ?_)
      refine px_if_geN 37 dX6_copy_31 (by decide) (by first | omega | exact hOK.lt (by decide) | exact hOK.lts (by decide)) ?_
      refine px_aload_n dX6_copy_37 rfl ?_
      refine px_get xk_X6 0 dX6_copy_38 (Or.inl fl_X6_7) MH_obj (by decide) rfl ?_
      refine px_iload_n dX6_copy_41 rfl ?_
      refine px_laL dX6_copy_42 (by omega) (px_topi hla ?_)
      refine px_aload_n dX6_copy_43 rfl ?_
      refine px_get xk_X6 0 dX6_copy_44 (Or.inl fl_X6_7) MH_obj (by decide) rfl ?_
      refine px_iload_n dX6_copy_47 rfl ?_
      refine px_laL dX6_copy_48 (by omega) (px_topi hlb ?_)
      refine px_icmp_eqN 55 dX6_copy_49 (by decide) (by first | omega | exact hOK.lt (by decide) | exact hOK.lts (by decide)) (by first | omega | exact hOK.lt (by decide) | exact hOK.lts (by decide)) (fun c49 => ?_) (fun c49 => ?_)
      · refine px_iload_n dX6_copy_55 rfl ?_
        refine px_iload dX6_copy_56 rfl ?_
        refine px_aload_n dX6_copy_58 rfl ?_
        refine px_get xk_X6 1 dX6_copy_59 (Or.inl fl_X6_13) MH_obj (by decide) rfl ?_
        refine px_iload_n dX6_copy_62 rfl ?_
        refine px_szL dX6_copy_63 (by omega) (px_topi (congrArg nI hsz) ?_)
        refine px_si (c_X6_isPart (O.2.1 s) i k (hR.2.2.1 s hs).2.2.1) mw_X6_isPart wt_X6_isPart (Or.inl ml_X6_159) dX6_copy_64 (by decide) rfl rfl (Nat.le_of_ble_eq_true rfl) ⟨rfl, rfl⟩ ?_
        refine px_if_eqB 86 dX6_copy_67 (by decide) (fun c67 => ?_) (fun c67 => ?_)
        · refine px_bipush (v := -13) dX6_copy_86 (by decide) ?_
          exact px_iret dX6_copy_88 rfl rfl rfl ⟨rfl, D, hR, rfl⟩
        · refine px_iload dX6_copy_70 rfl ?_
          refine px_iload dX6_copy_72 rfl ?_
          refine px_aload_n dX6_copy_74 rfl ?_
          refine px_get xk_X6 1 dX6_copy_75 (Or.inl fl_X6_13) MH_obj (by decide) rfl ?_
          refine px_iload_n dX6_copy_78 rfl ?_
          refine px_szL dX6_copy_79 (by omega) (px_topi (congrArg nI hkz) ?_)
          refine px_si (c_X6_isPart (O.2.1 t) j k (hR.2.2.1 t ht).2.2.1) mw_X6_isPart wt_X6_isPart (Or.inl ml_X6_159) dX6_copy_80 (by decide) rfl rfl (Nat.le_of_ble_eq_true rfl) ⟨rfl, rfl⟩ ?_
          refine px_if_neB 89 dX6_copy_83 (by decide) (fun c83 => ?_) (fun c83 => ?_)
          · exact absurd ⟨c67, c83⟩ hh
          · refine px_bipush (v := -13) dX6_copy_86 (by decide) ?_
            exact px_iret dX6_copy_88 rfl rfl rfl ⟨rfl, D, hR, rfl⟩
      · exact absurd ((nI_eq (by omega) (by omega)).mp (hl3.symm.trans (hc.trans hk3))) c49
    · cases c11
theorem c_ip_y {E : xE} {h : xHp} {S : xS} {f k : Nat} (hz : S.2.2 ≤ 24) (hf : f + k ≤ S.2.2) : PMI E mX6_isPart [.int (nI f), .int (nI k), .int (nI S.2.2)] h (bI true) h := by
  have := c_X6_isPart (E := E) (h := h) S (nI f) (nI k) hz
  rw [shold_ok hz hf] at this
  exact this
set_option maxHeartbeats 4000000 in
set_option maxRecDepth 100000 in
theorem l_X6_copy_dn {E : xE} {h : xHp} {w : Nat} {D : xMd} {O : xO} (hR : Rel O D) (s t f g k : Nat) (hs : s < 4) (ht : t < 4) (hf : f + k ≤ 24) (hg : g + k ≤ 24) (hd : s ≠ t ∨ g ≤ f) : ∀ (n i : Nat), i ≤ k → k + 1 ≤ i + n → PW E mX6_copy (fun v h1 => v = some (.int (nI k)) ∧ ∃ D', Rel (oS O t (va_cpy (O.2.1 s).1 (O.2.1 t).1 f g k, (O.2.1 t).2)) D' ∧ h1 = MH E h w D') 0 0 110 [some (.ref w), some (.int (nI s)), some (.int (nI f)), some (.int (nI t)), some (.int (nI g)), some (.int (nI k)), some (.int (nI 0)), some (.int (nI i)), none] [] (MH E h w (sIt D (va_cpy (mIt D) (mIt D) (24 * s + f) (24 * t + g) i))) := by
  intro n
  induction n with
  | zero =>
    intro i h1 h2
    omega
  | succ n ih =>
    intro i h1 h2
    refine px_iload dX6_copy_110 rfl ?_
    refine px_iload dX6_copy_112 rfl ?_
    refine px_icmp_geN 171 dX6_copy_114 (by decide) (by omega) (by omega) (fun c114 => ?_) (fun c114 => ?_)
    · refine px_iload dX6_copy_171 rfl ?_
      have hi : i = k := by omega
      subst hi
      exact px_iret dX6_copy_173 rfl rfl rfl ⟨rfl, _, hR.copy hs ht hf hg, rfl⟩
    · refine px_iload dX6_copy_117 rfl ?_
      refine px_if_eq 132 dX6_copy_119 (by decide) (fun _ => ?_) (fun z => absurd z (by decide))
      refine px_iload dX6_copy_132 rfl ?_
      refine px_ist_8 dX6_copy_134 (by decide) rfl ?_
      refine px_aload_n dX6_copy_136 rfl ?_
      refine px_get xk_X6 2 dX6_copy_137 (Or.inl fl_X6_16) MH_obj (by decide) rfl ?_
      refine px_bipush (v := nI 24) dX6_copy_140 (by decide) ?_
      refine px_iload_n dX6_copy_142 rfl ?_
      refine px_imulN dX6_copy_143 ?_
      refine px_iload dX6_copy_144 rfl ?_
      refine px_iaddN dX6_copy_146 ?_
      refine px_iload dX6_copy_147 rfl ?_
      refine px_iaddN dX6_copy_149 ?_
      refine px_aload_n dX6_copy_150 rfl ?_
      refine px_get xk_X6 2 dX6_copy_151 (Or.inl fl_X6_16) MH_obj (by decide) rfl ?_
      refine px_bipush (v := nI 24) dX6_copy_154 (by decide) ?_
      refine px_iload_n dX6_copy_156 rfl ?_
      refine px_imulN dX6_copy_157 ?_
      refine px_iload_n dX6_copy_158 rfl ?_
      refine px_iaddN dX6_copy_159 ?_
      refine px_iload dX6_copy_160 rfl ?_
      refine px_iaddN dX6_copy_162 ?_
      refine px_itL dX6_copy_163 (by omega) (px_top (congrArg Value.long (show (va_cpy (mIt D) (mIt D) (24 * s + f) (24 * t + g) i) (24 * s + f + (i)) = _ from cpyL_out (by omega))) ?_)
      refine px_itW dX6_copy_164 (by omega) (px_heap (h2 := MH E h w (sIt D (va_cpy (mIt D) (mIt D) (24 * s + f) (24 * t + g) (i + 1)))) (by show MH E h w (sIt D (va_up (va_cpy (mIt D) (mIt D) (24 * s + f) (24 * t + g) i) (24 * t + g + (i)) (mIt D (24 * s + f + (i))))) = _; rw [cpyL_s]) ?_)
      refine px_inc_7 dX6_copy_165 rfl (nI_1 _) (by decide) rfl ?_
      refine px_goto 110 dX6_copy_168 (by decide) ?_
      refine px_fg_8 ?_
      exact ih (i + 1) (by omega) (by omega)
set_option maxHeartbeats 4000000 in
set_option maxRecDepth 100000 in
theorem l_X6_copy_up {E : xE} {h : xHp} {w : Nat} {D : xMd} {O : xO} (hR : Rel O D) (s t f g k : Nat) (hs : s < 4) (ht : t < 4) (hf : f + k ≤ 24) (hg : g + k ≤ 24) (hd : s = t) (hd2 : f < g) : ∀ (n i : Nat), i ≤ k → k + 1 ≤ i + n → PW E mX6_copy (fun v h1 => v = some (.int (nI k)) ∧ ∃ D', Rel (oS O t (va_cpy (O.2.1 s).1 (O.2.1 t).1 f g k, (O.2.1 t).2)) D' ∧ h1 = MH E h w D') 0 0 110 [some (.ref w), some (.int (nI s)), some (.int (nI f)), some (.int (nI t)), some (.int (nI g)), some (.int (nI k)), some (.int (nI 1)), some (.int (nI i)), none] [] (MH E h w (sIt D (cpyd (mIt D) (24 * s + f) (24 * t + g) k i))) := by
  intro n
  induction n with
  | zero =>
    intro i h1 h2
    omega
  | succ n ih =>
    intro i h1 h2
    refine px_iload dX6_copy_110 rfl ?_
    refine px_iload dX6_copy_112 rfl ?_
    refine px_icmp_geN 171 dX6_copy_114 (by decide) (by omega) (by omega) (fun c114 => ?_) (fun c114 => ?_)
    · refine px_iload dX6_copy_171 rfl ?_
      have hi : i = k := by omega
      subst hi
      refine px_heap (h2 := MH E h w (sIt D (va_cpy (mIt D) (mIt D) (24 * s + f) (24 * t + g) i))) (by rw [cpyd_n]) ?_
      exact px_iret dX6_copy_173 rfl rfl rfl ⟨rfl, _, hR.copy hs ht hf hg, rfl⟩
    · refine px_iload dX6_copy_117 rfl ?_
      refine px_if_eq 132 dX6_copy_119 (by decide) (fun z => absurd z (by decide)) (fun _ => ?_)
      refine px_iload dX6_copy_122 rfl ?_
      refine px_iconst (v := nI 1) dX6_copy_124 (by decide) ?_
      refine px_isubN dX6_copy_125 (by omega) ?_
      refine px_iload dX6_copy_126 rfl ?_
      refine px_isubN dX6_copy_128 (by omega) ?_
      refine px_goto 134 dX6_copy_129 (by decide) ?_
      refine px_ist_8 dX6_copy_134 (by decide) rfl ?_
      refine px_aload_n dX6_copy_136 rfl ?_
      refine px_get xk_X6 2 dX6_copy_137 (Or.inl fl_X6_16) MH_obj (by decide) rfl ?_
      refine px_bipush (v := nI 24) dX6_copy_140 (by decide) ?_
      refine px_iload_n dX6_copy_142 rfl ?_
      refine px_imulN dX6_copy_143 ?_
      refine px_iload dX6_copy_144 rfl ?_
      refine px_iaddN dX6_copy_146 ?_
      refine px_iload dX6_copy_147 rfl ?_
      refine px_iaddN dX6_copy_149 ?_
      refine px_aload_n dX6_copy_150 rfl ?_
      refine px_get xk_X6 2 dX6_copy_151 (Or.inl fl_X6_16) MH_obj (by decide) rfl ?_
      refine px_bipush (v := nI 24) dX6_copy_154 (by decide) ?_
      refine px_iload_n dX6_copy_156 rfl ?_
      refine px_imulN dX6_copy_157 ?_
      refine px_iload_n dX6_copy_158 rfl ?_
      refine px_iaddN dX6_copy_159 ?_
      refine px_iload dX6_copy_160 rfl ?_
      refine px_iaddN dX6_copy_162 ?_
      refine px_itL dX6_copy_163 (by omega) (px_top (congrArg Value.long (show (cpyd (mIt D) (24 * s + f) (24 * t + g) k i) (24 * s + f + (k - 1 - i)) = _ from cpyd_out (by omega))) ?_)
      refine px_itW dX6_copy_164 (by omega) (px_heap (h2 := MH E h w (sIt D (cpyd (mIt D) (24 * s + f) (24 * t + g) k (i + 1)))) (by show MH E h w (sIt D (va_up (cpyd (mIt D) (24 * s + f) (24 * t + g) k i) (24 * t + g + (k - 1 - i)) (mIt D (24 * s + f + (k - 1 - i))))) = _; rw [cpyd_s (by omega)]) ?_)
      refine px_inc_7 dX6_copy_165 rfl (nI_1 _) (by decide) rfl ?_
      refine px_goto 110 dX6_copy_168 (by decide) ?_
      refine px_fg_8 ?_
      exact ih (i + 1) (by omega) (by omega)
set_option maxHeartbeats 4000000 in
set_option maxRecDepth 100000 in
theorem c_X6_copy {E : xE} {h : xHp} {w : Nat} {D : xMd} {O : xO} (hR : Rel O D) (s f t g k : Nat) (hs : s < 4) (ht : t < 4) (hn : (O.2.1 s).2.1 ≠ -1 ∧ (O.2.1 t).2.1 ≠ -1) (hc : (O.2.1 s).2.1 = (O.2.1 t).2.1) (hz1 : (O.2.1 s).2.2 ≤ 24) (hz2 : (O.2.1 t).2.2 ≤ 24) (hf : f + k ≤ (O.2.1 s).2.2) (hg : g + k ≤ (O.2.1 t).2.2) : PMX E mX6_copy [.ref w, .int (nI s), .int (nI f), .int (nI t), .int (nI g), .int (nI k)] h w D (nI k) (oS O t (va_cpy (O.2.1 s).1 (O.2.1 t).1 f g k, (O.2.1 t).2)) := by
  have R := hR.1.1
  have hOK := hR.1.2.1.1
  have hm6 := hOK.1.1
  have hm4 := hOK.1.2.1
  have hN9 := hR.1.2.1.2
  obtain ⟨l2, hl2, hla, hl3, hsz⟩ := rs_n (hR.2.2.1 s hs) hn.1
  obtain ⟨k2, hk2, hlb, hk3, hkz⟩ := rs_n (hR.2.2.1 t ht) hn.2
  refine pm_of [some (.ref w), some (.int (nI s)), some (.int (nI f)), some (.int (nI t)), some (.int (nI g)), some (.int (nI k)), none, none, none] (by decide +kernel) (Nat.le_of_ble_eq_true rfl) rfl ?_
  refine px_iload_n dX6_copy_0 rfl ?_
  refine px_si (c_ms_y hs) mw_X6_isSheet wt_X6_isSheet (Or.inl ml_X6_162) dX6_copy_1 (by decide) rfl rfl (Nat.le_of_ble_eq_true rfl) ⟨rfl, rfl⟩ ?_
  refine px_if_eqB 14 dX6_copy_4 (by decide) (fun c4 => ?_) (fun c4 => ?_)
  · cases c4
  · refine px_iload_n dX6_copy_7 rfl ?_
    refine px_si (c_ms_y ht) mw_X6_isSheet wt_X6_isSheet (Or.inl ml_X6_162) dX6_copy_8 (by decide) rfl rfl (Nat.le_of_ble_eq_true rfl) ⟨rfl, rfl⟩ ?_
    refine px_if_neB 16 dX6_copy_11 (by decide) (fun c11 => ?_) (fun c11 => ?_)
    · refine px_aload_n dX6_copy_16 rfl ?_
      refine px_get xk_X6 0 dX6_copy_17 (Or.inl fl_X6_7) MH_obj (by decide) rfl ?_
      refine px_iload_n dX6_copy_20 rfl ?_
      refine px_laL dX6_copy_21 (by omega) (px_topi hla ?_)
      refine px_if_ltN 34 dX6_copy_22 (by decide) (by first | omega | exact hOK.lt (by decide) | exact hOK.lts (by decide)) ?_
      refine px_aload_n dX6_copy_25 rfl ?_
      refine px_get xk_X6 0 dX6_copy_26 (Or.inl fl_X6_7) MH_obj (by decide) rfl ?_
      refine px_iload_n dX6_copy_29 rfl ?_
      refine px_laL dX6_copy_30 (by omega) (px_topi hlb ?_)
      refine px_if_geN 37 dX6_copy_31 (by decide) (by first | omega | exact hOK.lt (by decide) | exact hOK.lts (by decide)) ?_
      refine px_aload_n dX6_copy_37 rfl ?_
      refine px_get xk_X6 0 dX6_copy_38 (Or.inl fl_X6_7) MH_obj (by decide) rfl ?_
      refine px_iload_n dX6_copy_41 rfl ?_
      refine px_laL dX6_copy_42 (by omega) (px_topi hla ?_)
      refine px_aload_n dX6_copy_43 rfl ?_
      refine px_get xk_X6 0 dX6_copy_44 (Or.inl fl_X6_7) MH_obj (by decide) rfl ?_
      refine px_iload_n dX6_copy_47 rfl ?_
      refine px_laL dX6_copy_48 (by omega) (px_topi hlb ?_)
      refine px_icmp_eqN 55 dX6_copy_49 (by decide) (by first | omega | exact hOK.lt (by decide) | exact hOK.lts (by decide)) (by first | omega | exact hOK.lt (by decide) | exact hOK.lts (by decide)) (fun c49 => ?_) (fun c49 => ?_)
      · refine px_iload_n dX6_copy_55 rfl ?_
        refine px_iload dX6_copy_56 rfl ?_
        refine px_aload_n dX6_copy_58 rfl ?_
        refine px_get xk_X6 1 dX6_copy_59 (Or.inl fl_X6_13) MH_obj (by decide) rfl ?_
        refine px_iload_n dX6_copy_62 rfl ?_
        refine px_szL dX6_copy_63 (by omega) (px_topi (congrArg nI hsz) ?_)
        refine px_si (c_ip_y hz1 hf) mw_X6_isPart wt_X6_isPart (Or.inl ml_X6_159) dX6_copy_64 (by decide) rfl rfl (Nat.le_of_ble_eq_true rfl) ⟨rfl, rfl⟩ ?_
        refine px_if_eqB 86 dX6_copy_67 (by decide) (fun c67 => ?_) (fun c67 => ?_)
        · cases c67
        · refine px_iload dX6_copy_70 rfl ?_
          refine px_iload dX6_copy_72 rfl ?_
          refine px_aload_n dX6_copy_74 rfl ?_
          refine px_get xk_X6 1 dX6_copy_75 (Or.inl fl_X6_13) MH_obj (by decide) rfl ?_
          refine px_iload_n dX6_copy_78 rfl ?_
          refine px_szL dX6_copy_79 (by omega) (px_topi (congrArg nI hkz) ?_)
          refine px_si (c_ip_y hz2 hg) mw_X6_isPart wt_X6_isPart (Or.inl ml_X6_159) dX6_copy_80 (by decide) rfl rfl (Nat.le_of_ble_eq_true rfl) ⟨rfl, rfl⟩ ?_
          refine px_if_neB 89 dX6_copy_83 (by decide) (fun c83 => ?_) (fun c83 => ?_)
          · refine px_iload_n dX6_copy_89 rfl ?_
            refine px_iload_n dX6_copy_90 rfl ?_
            refine px_icmp_neN 104 dX6_copy_91 (by decide) (by first | omega | exact hOK.lt (by decide) | exact hOK.lts (by decide)) (by first | omega | exact hOK.lt (by decide) | exact hOK.lts (by decide)) (fun c91 => ?_) (fun c91 => ?_)
            · refine px_iconst (v := nI 0) dX6_copy_104 (by decide) ?_
              refine px_ist_6 dX6_copy_105 (by decide) rfl ?_
              refine px_iconst (v := nI 0) dX6_copy_107 (by decide) ?_
              refine px_ist_7 dX6_copy_108 (by decide) rfl ?_
              refine px_heap (h2 := MH E h w (sIt D (va_cpy (mIt D) (mIt D) (24 * s + f) (24 * t + g) 0))) (by rw [cpyL_0]; rfl) ?_
              exact l_X6_copy_dn hR s t f g k hs ht (by omega) (by omega) (Or.inl c91) (k + 1) 0 (Nat.zero_le _) (by omega)
            · refine px_iload dX6_copy_94 rfl ?_
              refine px_iload_n dX6_copy_96 rfl ?_
              refine px_icmp_leN 104 dX6_copy_97 (by decide) (by first | omega | exact hOK.lt (by decide) | exact hOK.lts (by decide)) (by first | omega | exact hOK.lt (by decide) | exact hOK.lts (by decide)) (fun c97 => ?_) (fun c97 => ?_)
              · refine px_iconst (v := nI 0) dX6_copy_104 (by decide) ?_
                refine px_ist_6 dX6_copy_105 (by decide) rfl ?_
                refine px_iconst (v := nI 0) dX6_copy_107 (by decide) ?_
                refine px_ist_7 dX6_copy_108 (by decide) rfl ?_
                refine px_heap (h2 := MH E h w (sIt D (va_cpy (mIt D) (mIt D) (24 * s + f) (24 * t + g) 0))) (by rw [cpyL_0]; rfl) ?_
                exact l_X6_copy_dn hR s t f g k hs ht (by omega) (by omega) (Or.inr c97) (k + 1) 0 (Nat.zero_le _) (by omega)
              · refine px_iconst (v := nI 1) dX6_copy_100 (by decide) ?_
                refine px_goto 105 dX6_copy_101 (by decide) ?_
                refine px_ist_6 dX6_copy_105 (by decide) rfl ?_
                refine px_iconst (v := nI 0) dX6_copy_107 (by decide) ?_
                refine px_ist_7 dX6_copy_108 (by decide) rfl ?_
                refine px_heap (h2 := MH E h w (sIt D (cpyd (mIt D) (24 * s + f) (24 * t + g) k 0))) (by rw [cpyd_0]; rfl) ?_
                exact l_X6_copy_up hR s t f g k hs ht (by omega) (by omega) c91 c97 (k + 1) 0 (Nat.zero_le _) (by omega)
          · cases c83
      · exact absurd ((nI_eq (by omega) (by omega)).mp (hl3.symm.trans (hc.trans hk3))) c49
    · cases c11
