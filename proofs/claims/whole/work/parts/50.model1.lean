/-! ===== the reference: its block ===== -/
abbrev xMd : Type := (Nat → Nat → Nat) × (Nat → Int32) × (Nat → Int32) × (Nat → Nat) × (Nat → Int64) × (Nat → Nat) × Nat × Nat × Int32 × Bool
abbrev mPr (D : xMd) : Nat → Int32 := D.2.1
abbrev mLa (D : xMd) : Nat → Int32 := D.2.2.1
abbrev mSz (D : xMd) : Nat → Nat := D.2.2.2.1
abbrev mIt (D : xMd) : Nat → Int64 := D.2.2.2.2.1
abbrev mTp (D : xMd) : Nat → Nat := D.2.2.2.2.2.1
abbrev mLn (D : xMd) : Nat := D.2.2.2.2.2.2.1
abbrev mPo (D : xMd) : Nat := D.2.2.2.2.2.2.2.1
abbrev mNu (D : xMd) : Int32 := D.2.2.2.2.2.2.2.2.1
abbrev mIk (D : xMd) : Bool := D.2.2.2.2.2.2.2.2.2
def sB (D : xMd) (k : Nat) (g : Nat → Nat) : xMd := (va_up D.1 k g, D.2)
def sPr (D : xMd) (p : Nat → Int32) : xMd := (D.1, p, D.2.2)
def sLa (D : xMd) (p : Nat → Int32) : xMd := (D.1, mPr D, p, D.2.2.2)
def sSz (D : xMd) (p : Nat → Nat) : xMd := (D.1, mPr D, mLa D, p, D.2.2.2.2)
def sIt (D : xMd) (p : Nat → Int64) : xMd := (D.1, mPr D, mLa D, mSz D, p, D.2.2.2.2.2)
def sTp (D : xMd) (p : Nat → Nat) : xMd := (D.1, mPr D, mLa D, mSz D, mIt D, p, D.2.2.2.2.2.2)
def sLn (D : xMd) (p : Nat) : xMd := (D.1, mPr D, mLa D, mSz D, mIt D, mTp D, p, D.2.2.2.2.2.2.2)
def sPo (D : xMd) (p : Nat) : xMd := (D.1, mPr D, mLa D, mSz D, mIt D, mTp D, mLn D, p, D.2.2.2.2.2.2.2.2)
def sNu (D : xMd) (p : Int32) : xMd := (D.1, mPr D, mLa D, mSz D, mIt D, mTp D, mLn D, mPo D, p, mIk D)
def sIk (D : xMd) (p : Bool) : xMd := (D.1, mPr D, mLa D, mSz D, mIt D, mTp D, mLn D, mPo D, mNu D, p)
theorem sB_at (D : xMd) (k : Nat) (g : Nat → Nat) : (sB D k g).1 k = g := va_up_self _ _ _
theorem sB_self (D : xMd) (k : Nat) : sB D k (D.1 k) = D := by unfold sB; rw [vup_self]
theorem sB_twice (D : xMd) (k : Nat) (f g : Nat → Nat) : sB (sB D k f) k g = sB D k g := by unfold sB; rw [vup_twice]
abbrev mdO (w : Nat) (D : xMd) : List Value := [.ref (w + 1), .ref (w + 2), .ref (w + 3), .int (nI (mLn D)), .ref (w + 4), .int (nI (mPo D)), .int (mNu D), .ref (w + 5), .ref (w + 6), .ref (w + 7), .ref (w + 8), .int (bI (mIk D)), .ref (w + 9)]
def mdC (E : xE) (w : Nat) (D : xMd) (o : Nat) : Option va_E :=
  if o = 0 then some (.inr (6, mdO w D))
  else if o = 1 then some (.inl (E.1.2 0, 4, .inl (mLa D)))
  else if o = 2 then some (.inl (E.1.2 0, 4, .inl (fun i => nI (mSz D i))))
  else if o = 3 then some (.inl (E.1.2 1, 96, .inr (.inl (mIt D))))
  else if o = 4 then some (.inl (E.1.2 0, 80, .inl (fun i => nI (mTp D i))))
  else if o < 9 then some (.inl (E.1.2 0, 216, .inl (fun i => nI (D.1 (o - 5) i))))
  else some (.inl (E.1.2 0, 4, .inl (mPr D)))
abbrev MH (E : xE) (h : xHp) (w : Nat) (D : xMd) : xHp := putB h w 10 (mdC E w D)
section PXM
variable {E : xE} {M : xM} {Q : Option Value → xHp → Prop} {k n pc : Nat} {lo : List (Option Value)} {r : List Value} {h : xHp} {D : xMd} {w : Nat}
theorem MH_obj : MH E h w D w = some (.inr (6, mdO w D)) := putB_0 (by decide)
theorem MH_1 : MH E h w D (w + 1) = some (.inl (E.1.2 0, 4, .inl (mLa D))) := (putB_at (j := 1) (by decide)).trans rfl
theorem MH_2 : MH E h w D (w + 2) = some (.inl (E.1.2 0, 4, .inl (fun i => nI (mSz D i)))) := (putB_at (j := 2) (by decide)).trans rfl
theorem MH_3 : MH E h w D (w + 3) = some (.inl (E.1.2 1, 96, .inr (.inl (mIt D)))) := (putB_at (j := 3) (by decide)).trans rfl
theorem MH_4 : MH E h w D (w + 4) = some (.inl (E.1.2 0, 80, .inl (fun i => nI (mTp D i)))) := (putB_at (j := 4) (by decide)).trans rfl
theorem MH_9 : MH E h w D (w + 9) = some (.inl (E.1.2 0, 4, .inl (mPr D))) := (putB_at (j := 9) (by decide)).trans rfl
theorem MH_bd {b : Nat} (hb : b < 4) : MH E h w D (w + 5 + b) = some (.inl (E.1.2 0, 216, .inl (fun i => nI (D.1 b i)))) := by
  rw [show w + 5 + b = w + (5 + b) by omega]
  refine (putB_at (j := 5 + b) (by omega)).trans ?_
  unfold mdC
  rw [if_neg (by omega), if_neg (by omega), if_neg (by omega), if_neg (by omega), if_neg (by omega), if_pos (by omega), show 5 + b - 5 = b by omega]
theorem mh_cell {o : Nat} {c : Option va_E} {D2 : xMd} (ho : o < 10) (h1 : mdC E w D2 o = c) (h2 : ∀ q, q ≠ o → q < 10 → mdC E w D2 q = mdC E w D q) : va_up (MH E h w D) (w + o) c = MH E h w D2 := by
  unfold MH
  rw [putB_up ho]
  refine putB_congr (fun q hq => ?_)
  by_cases hqo : q = o
  · subst hqo; rw [va_up_self]; exact h1.symm
  · rw [va_up_ne _ _ hqo]; exact (h2 q hqo hq).symm
theorem mh_b {b : Nat} {g : Nat → Nat} (hb : b < 4) : va_up (MH E h w D) (w + 5 + b) (some (.inl (E.1.2 0, 216, .inl (fun i => nI (g i))))) = MH E h w (sB D b g) := by
  rw [show w + 5 + b = w + (5 + b) by omega]
  refine mh_cell (by omega) ?_ (fun q hq hq2 => ?_)
  · unfold mdC
    rw [if_neg (by omega), if_neg (by omega), if_neg (by omega), if_neg (by omega), if_neg (by omega), if_pos (by omega), show 5 + b - 5 = b by omega]
    unfold sB
    dsimp only
    rw [va_up_self]
  · unfold mdC
    by_cases g0 : q = 0
    · rw [if_pos g0, if_pos g0]; rfl
    · rw [if_neg g0, if_neg g0]
      by_cases g1 : q = 1
      · rw [if_pos g1, if_pos g1]; rfl
      · rw [if_neg g1, if_neg g1]
        by_cases g2 : q = 2
        · rw [if_pos g2, if_pos g2]; rfl
        · rw [if_neg g2, if_neg g2]
          by_cases g3 : q = 3
          · rw [if_pos g3, if_pos g3]; rfl
          · rw [if_neg g3, if_neg g3]
            by_cases g4 : q = 4
            · rw [if_pos g4, if_pos g4]; rfl
            · rw [if_neg g4, if_neg g4]
              by_cases g5 : q < 9
              · rw [if_pos g5, if_pos g5]
                unfold sB
                dsimp only
                rw [va_up_ne _ _ (show q - 5 ≠ b by omega)]
              · rw [if_neg g5, if_neg g5]; rfl
theorem mh_1 {f : Nat → Int32} : va_up (MH E h w D) (w + 1) (some (.inl (E.1.2 0, 4, .inl f))) = MH E h w (sLa D f) := mh_cell (o := 1) (by decide) rfl (fun q hq hq2 => match q, hq, hq2 with
    | 1, hq, _ => absurd rfl hq
    | 0, _, _ => rfl
    | 2, _, _ => rfl
    | 3, _, _ => rfl
    | 4, _, _ => rfl
    | 5, _, _ => rfl
    | 6, _, _ => rfl
    | 7, _, _ => rfl
    | 8, _, _ => rfl
    | 9, _, _ => rfl)
theorem mh_2 {f : Nat → Nat} : va_up (MH E h w D) (w + 2) (some (.inl (E.1.2 0, 4, .inl (fun i => nI (f i))))) = MH E h w (sSz D f) := mh_cell (o := 2) (by decide) rfl (fun q hq hq2 => match q, hq, hq2 with
    | 2, hq, _ => absurd rfl hq
    | 0, _, _ => rfl
    | 1, _, _ => rfl
    | 3, _, _ => rfl
    | 4, _, _ => rfl
    | 5, _, _ => rfl
    | 6, _, _ => rfl
    | 7, _, _ => rfl
    | 8, _, _ => rfl
    | 9, _, _ => rfl)
theorem mh_3 {f : Nat → Int64} : va_up (MH E h w D) (w + 3) (some (.inl (E.1.2 1, 96, .inr (.inl f)))) = MH E h w (sIt D f) := mh_cell (o := 3) (by decide) rfl (fun q hq hq2 => match q, hq, hq2 with
    | 3, hq, _ => absurd rfl hq
    | 0, _, _ => rfl
    | 1, _, _ => rfl
    | 2, _, _ => rfl
    | 4, _, _ => rfl
    | 5, _, _ => rfl
    | 6, _, _ => rfl
    | 7, _, _ => rfl
    | 8, _, _ => rfl
    | 9, _, _ => rfl)
theorem mh_4 {f : Nat → Nat} : va_up (MH E h w D) (w + 4) (some (.inl (E.1.2 0, 80, .inl (fun i => nI (f i))))) = MH E h w (sTp D f) := mh_cell (o := 4) (by decide) rfl (fun q hq hq2 => match q, hq, hq2 with
    | 4, hq, _ => absurd rfl hq
    | 0, _, _ => rfl
    | 1, _, _ => rfl
    | 2, _, _ => rfl
    | 3, _, _ => rfl
    | 5, _, _ => rfl
    | 6, _, _ => rfl
    | 7, _, _ => rfl
    | 8, _, _ => rfl
    | 9, _, _ => rfl)
theorem mh_9 {f : Nat → Int32} : va_up (MH E h w D) (w + 9) (some (.inl (E.1.2 0, 4, .inl f))) = MH E h w (sPr D f) := mh_cell (o := 9) (by decide) rfl (fun q hq hq2 => match q, hq, hq2 with
    | 9, hq, _ => absurd rfl hq
    | 0, _, _ => rfl
    | 1, _, _ => rfl
    | 2, _, _ => rfl
    | 3, _, _ => rfl
    | 4, _, _ => rfl
    | 5, _, _ => rfl
    | 6, _, _ => rfl
    | 7, _, _ => rfl
    | 8, _, _ => rfl)
theorem mh_ln {v : Nat} : va_up (MH E h w D) (w + 0) (some (.inr (6, mdO w (sLn D v)))) = MH E h w (sLn D v) := mh_cell (o := 0) (by decide) rfl (fun q hq hq2 => match q, hq, hq2 with
    | 0, hq, _ => absurd rfl hq
    | 1, _, _ => rfl
    | 2, _, _ => rfl
    | 3, _, _ => rfl
    | 4, _, _ => rfl
    | 5, _, _ => rfl
    | 6, _, _ => rfl
    | 7, _, _ => rfl
    | 8, _, _ => rfl
    | 9, _, _ => rfl)
theorem mh_po {v : Nat} : va_up (MH E h w D) (w + 0) (some (.inr (6, mdO w (sPo D v)))) = MH E h w (sPo D v) := mh_cell (o := 0) (by decide) rfl (fun q hq hq2 => match q, hq, hq2 with
    | 0, hq, _ => absurd rfl hq
    | 1, _, _ => rfl
    | 2, _, _ => rfl
    | 3, _, _ => rfl
    | 4, _, _ => rfl
    | 5, _, _ => rfl
    | 6, _, _ => rfl
    | 7, _, _ => rfl
    | 8, _, _ => rfl
    | 9, _, _ => rfl)
theorem mh_nu {v : Int32} : va_up (MH E h w D) (w + 0) (some (.inr (6, mdO w (sNu D v)))) = MH E h w (sNu D v) := mh_cell (o := 0) (by decide) rfl (fun q hq hq2 => match q, hq, hq2 with
    | 0, hq, _ => absurd rfl hq
    | 1, _, _ => rfl
    | 2, _, _ => rfl
    | 3, _, _ => rfl
    | 4, _, _ => rfl
    | 5, _, _ => rfl
    | 6, _, _ => rfl
    | 7, _, _ => rfl
    | 8, _, _ => rfl
    | 9, _, _ => rfl)
theorem mh_ik {v : Bool} : va_up (MH E h w D) (w + 0) (some (.inr (6, mdO w (sIk D v)))) = MH E h w (sIk D v) := mh_cell (o := 0) (by decide) rfl (fun q hq hq2 => match q, hq, hq2 with
    | 0, hq, _ => absurd rfl hq
    | 1, _, _ => rfl
    | 2, _, _ => rfl
    | 3, _, _ => rfl
    | 4, _, _ => rfl
    | 5, _, _ => rfl
    | 6, _, _ => rfl
    | 7, _, _ => rfl
    | 8, _, _ => rfl
    | 9, _, _ => rfl)
theorem upd_nI {f : Nat → Nat} {i v : Nat} : upd (fun q => nI (f q)) i (nI v) = fun q => nI (va_up f i v q) := by
  funext q
  by_cases hq : q = i
  · subst hq; rw [va_up_self]; simp [upd]
  · rw [va_up_ne _ _ hq]; simp [upd, hq]
theorem upd_up {f : Nat → Int32} {i : Nat} {v : Int32} : upd f i v = va_up f i v := by
  funext q
  by_cases hq : q = i
  · subst hq; rw [va_up_self]; simp [upd]
  · rw [va_up_ne _ _ hq]; simp [upd, hq]
theorem updL_up {f : Nat → Int64} {i : Nat} {v : Int64} : vp_updL f i v = va_up f i v := by
  funext q
  by_cases hq : q = i
  · subst hq; rw [va_up_self]; simp [vp_updL]
  · rw [va_up_ne _ _ hq]; simp [vp_updL, hq]
theorem px_bL {b i v : Nat} {g : Nat → Nat} (hg : D.1 b = g) (hd : decode (xC M) pc = .ok (.iaload, 1)) (hb : b < 4) (hi : i < 216) (he : g i = v) (kk : PW E M Q k n (pc + 1) lo (.int (nI v) :: r) (MH E h w D)) : PW E M Q k n pc lo (.int (nI i) :: .ref (w + 5 + b) :: r) (MH E h w D) := by
  subst hg; subst he
  refine px_iald hd (MH_bd hb) (vp_in_nI hi (by decide)) ?_
  rw [nI_clamp (by omega)]
  exact kk
theorem px_bW {b i v : Nat} (hd : decode (xC M) pc = .ok (.iastore, 1)) (hb : b < 4) (hi : i < 216) (kk : PW E M Q k n (pc + 1) lo r (MH E h w (sB D b (va_up (D.1 b) i v)))) : PW E M Q k n pc lo (.int (nI v) :: .int (nI i) :: .ref (w + 5 + b) :: r) (MH E h w D) := by
  refine px_iast hd (MH_bd hb) (vp_in_nI hi (by decide)) ?_
  rw [nI_clamp (by omega), upd_nI]
  exact px_heap (mh_b hb) kk
theorem px_bWs {b i v : Nat} {g : Nat → Nat} (hd : decode (xC M) pc = .ok (.iastore, 1)) (hb : b < 4) (hi : i < 216) (kk : PW E M Q k n (pc + 1) lo r (MH E h w (sB D b (va_up g i v)))) : PW E M Q k n pc lo (.int (nI v) :: .int (nI i) :: .ref (w + 5 + b) :: r) (MH E h w (sB D b g)) := by
  refine px_bW hd hb hi (px_heap ?_ kk)
  rw [sB_twice, sB_at]
theorem px_laL {i : Nat} (hd : decode (xC M) pc = .ok (.iaload, 1)) (hi : i < 4) (kk : PW E M Q k n (pc + 1) lo (.int (mLa D i) :: r) (MH E h w D)) : PW E M Q k n pc lo (.int (nI i) :: .ref (w + 1) :: r) (MH E h w D) := by
  refine px_iald hd MH_1 (vp_in_nI hi (by decide)) ?_
  rw [nI_clamp (by omega)]
  exact kk
theorem px_laW {i : Nat} {v : Int32} (hd : decode (xC M) pc = .ok (.iastore, 1)) (hi : i < 4) (kk : PW E M Q k n (pc + 1) lo r (MH E h w (sLa D (va_up (mLa D) i v)))) : PW E M Q k n pc lo (.int v :: .int (nI i) :: .ref (w + 1) :: r) (MH E h w D) := by
  refine px_iast hd MH_1 (vp_in_nI hi (by decide)) ?_
  rw [nI_clamp (by omega), upd_up]
  exact px_heap mh_1 kk
theorem px_szL {i : Nat} (hd : decode (xC M) pc = .ok (.iaload, 1)) (hi : i < 4) (kk : PW E M Q k n (pc + 1) lo (.int (nI (mSz D i)) :: r) (MH E h w D)) : PW E M Q k n pc lo (.int (nI i) :: .ref (w + 2) :: r) (MH E h w D) := by
  refine px_iald hd MH_2 (vp_in_nI hi (by decide)) ?_
  rw [nI_clamp (by omega)]
  exact kk
theorem px_szW {i v : Nat} (hd : decode (xC M) pc = .ok (.iastore, 1)) (hi : i < 4) (kk : PW E M Q k n (pc + 1) lo r (MH E h w (sSz D (va_up (mSz D) i v)))) : PW E M Q k n pc lo (.int (nI v) :: .int (nI i) :: .ref (w + 2) :: r) (MH E h w D) := by
  refine px_iast hd MH_2 (vp_in_nI hi (by decide)) ?_
  rw [nI_clamp (by omega), upd_nI]
  exact px_heap mh_2 kk
theorem px_itL {i : Nat} (hd : decode (xC M) pc = .ok (.laload, 1)) (hi : i < 96) (kk : PW E M Q k n (pc + 1) lo (.long (mIt D i) :: r) (MH E h w D)) : PW E M Q k n pc lo (.int (nI i) :: .ref (w + 3) :: r) (MH E h w D) := by
  refine px_lald hd MH_3 (vp_in_nI hi (by decide)) ?_
  rw [nI_clamp (by omega)]
  exact kk
theorem px_itW {i : Nat} {v : Int64} (hd : decode (xC M) pc = .ok (.lastore, 1)) (hi : i < 96) (kk : PW E M Q k n (pc + 1) lo r (MH E h w (sIt D (va_up (mIt D) i v)))) : PW E M Q k n pc lo (.long v :: .int (nI i) :: .ref (w + 3) :: r) (MH E h w D) := by
  refine px_last hd MH_3 (vp_in_nI hi (by decide)) ?_
  rw [nI_clamp (by omega), updL_up]
  exact px_heap mh_3 kk
theorem px_tpL {i v : Nat} (hd : decode (xC M) pc = .ok (.iaload, 1)) (hi : i < 80) (he : mTp D i = v) (kk : PW E M Q k n (pc + 1) lo (.int (nI v) :: r) (MH E h w D)) : PW E M Q k n pc lo (.int (nI i) :: .ref (w + 4) :: r) (MH E h w D) := by
  subst he
  refine px_iald hd MH_4 (vp_in_nI hi (by decide)) ?_
  rw [nI_clamp (by omega)]
  exact kk
theorem px_tpW {i v : Nat} (hd : decode (xC M) pc = .ok (.iastore, 1)) (hi : i < 80) (kk : PW E M Q k n (pc + 1) lo r (MH E h w (sTp D (va_up (mTp D) i v)))) : PW E M Q k n pc lo (.int (nI v) :: .int (nI i) :: .ref (w + 4) :: r) (MH E h w D) := by
  refine px_iast hd MH_4 (vp_in_nI hi (by decide)) ?_
  rw [nI_clamp (by omega), upd_nI]
  exact px_heap mh_4 kk
theorem px_prL {i : Nat} {v : Int32} (hd : decode (xC M) pc = .ok (.iaload, 1)) (hi : i < 4) (he : mPr D i = v) (kk : PW E M Q k n (pc + 1) lo (.int v :: r) (MH E h w D)) : PW E M Q k n pc lo (.int (nI i) :: .ref (w + 9) :: r) (MH E h w D) := by
  subst he
  refine px_iald hd MH_9 (vp_in_nI hi (by decide)) ?_
  rw [nI_clamp (by omega)]
  exact kk
theorem px_prW {i : Nat} {v : Int32} (hd : decode (xC M) pc = .ok (.iastore, 1)) (hi : i < 4) (kk : PW E M Q k n (pc + 1) lo r (MH E h w (sPr D (va_up (mPr D) i v)))) : PW E M Q k n pc lo (.int v :: .int (nI i) :: .ref (w + 9) :: r) (MH E h w D) := by
  refine px_iast hd MH_9 (vp_in_nI hi (by decide)) ?_
  rw [nI_clamp (by omega), upd_up]
  exact px_heap mh_9 kk
theorem px_pLn {idx v : Nat} (hd : decode (xC M) pc = .ok (.putfield idx, 3)) (hl : xFL (xY M).cls idx (TX6 3).1 (TX6 3).2.1 (TX6 3).2.2.1) (kk : PW E M Q k n (pc + 3) lo r (MH E h w (sLn D v))) : PW E M Q k n pc lo (.int (nI v) :: .ref w :: r) (MH E h w D) := px_put xk_X6 3 hd hl MH_obj (by decide) (by show 3 < 13; decide) rfl rfl rfl (px_heap (mh_ln (E := E) (h := h) (w := w) (D := D) (v := v)) kk)
theorem px_pPo {idx v : Nat} (hd : decode (xC M) pc = .ok (.putfield idx, 3)) (hl : xFL (xY M).cls idx (TX6 5).1 (TX6 5).2.1 (TX6 5).2.2.1) (kk : PW E M Q k n (pc + 3) lo r (MH E h w (sPo D v))) : PW E M Q k n pc lo (.int (nI v) :: .ref w :: r) (MH E h w D) := px_put xk_X6 5 hd hl MH_obj (by decide) (by show 5 < 13; decide) rfl rfl rfl (px_heap (mh_po (E := E) (h := h) (w := w) (D := D) (v := v)) kk)
theorem px_pNu {idx : Nat} {v : Int32} (hd : decode (xC M) pc = .ok (.putfield idx, 3)) (hl : xFL (xY M).cls idx (TX6 6).1 (TX6 6).2.1 (TX6 6).2.2.1) (kk : PW E M Q k n (pc + 3) lo r (MH E h w (sNu D v))) : PW E M Q k n pc lo (.int v :: .ref w :: r) (MH E h w D) := px_put xk_X6 6 hd hl MH_obj (by decide) (by show 6 < 13; decide) rfl rfl rfl (px_heap (mh_nu (E := E) (h := h) (w := w) (D := D) (v := v)) kk)
theorem px_pIk {idx : Nat} (hd : decode (xC M) pc = .ok (.putfield idx, 3)) (hl : xFL (xY M).cls idx (TX6 11).1 (TX6 11).2.1 (TX6 11).2.2.1) (kk : PW E M Q k n (pc + 3) lo r (MH E h w (sIk D true))) : PW E M Q k n pc lo (.int (nI 1) :: .ref w :: r) (MH E h w D) := px_put xk_X6 11 hd hl MH_obj (by decide) (by show 11 < 13; decide) rfl rfl rfl (px_heap (mh_ik (v := true)) kk)
end PXM
set_option maxHeartbeats 4000000 in
set_option maxRecDepth 100000 in
theorem c_X6_in {E : xE} {h : xHp} (x lo hi : Int32) : PMI E mX6_in [.int x, .int lo, .int hi] h (bI (decide (lo ≤ x ∧ x ≤ hi))) h := by
  refine pm_of [some (.int x), some (.int lo), some (.int hi)] (by decide +kernel) (Nat.le_of_ble_eq_true rfl) rfl ?_
  refine px_iload_n dX6_in_0 rfl ?_
  refine px_iload_n dX6_in_1 rfl ?_
  refine px_icmp_lt 14 dX6_in_2 (by decide) (fun c2 => ?_) (fun c2 => ?_)
  · refine px_iconst (v := nI 0) dX6_in_14 (by decide) ?_
    have e0 : decide (lo ≤ x ∧ x ≤ hi) = false := decide_eq_false (fun q => absurd c2 (Int32.not_lt.mpr q.1))
    exact px_bret (b := decide (lo ≤ x ∧ x ≤ hi)) dX6_in_15 rfl rfl rfl (by rw [e0]; rfl) ⟨rfl, rfl⟩
  · refine px_iload_n dX6_in_5 rfl ?_
    refine px_iload_n dX6_in_6 rfl ?_
    refine px_icmp_gt 14 dX6_in_7 (by decide) (fun c7 => ?_) (fun c7 => ?_)
    · refine px_iconst (v := nI 0) dX6_in_14 (by decide) ?_
      have e0 : decide (lo ≤ x ∧ x ≤ hi) = false := decide_eq_false (fun q => absurd c7 (Int32.not_lt.mpr q.2))
      exact px_bret (b := decide (lo ≤ x ∧ x ≤ hi)) dX6_in_15 rfl rfl rfl (by rw [e0]; rfl) ⟨rfl, rfl⟩
    · refine px_iconst (v := nI 1) dX6_in_10 (by decide) ?_
      refine px_goto 15 dX6_in_11 (by decide) ?_
      have e0 : decide (lo ≤ x ∧ x ≤ hi) = true := decide_eq_true ⟨Int32.not_lt.mp c2, Int32.not_lt.mp c7⟩
      exact px_bret (b := decide (lo ≤ x ∧ x ≤ hi)) dX6_in_15 rfl rfl rfl (by rw [e0]; rfl) ⟨rfl, rfl⟩
set_option maxHeartbeats 4000000 in
set_option maxRecDepth 100000 in
theorem c_X6_has {E : xE} {h : xHp} (x : Int32) (i : Nat) : PMI E mX6_has [.int x, .int (nI i)] h (bI (hbit x i)) h := by
  refine pm_of [some (.int x), some (.int (nI i))] (by decide +kernel) (Nat.le_of_ble_eq_true rfl) rfl ?_
  refine px_iload_n dX6_has_0 rfl ?_
  refine px_iload_n dX6_has_1 rfl ?_
  refine px_ishr dX6_has_2 ?_
  refine px_iconst (v := nI 1) dX6_has_3 (by decide) ?_
  refine px_iand dX6_has_4 ?_
  refine px_iconst (v := nI 1) dX6_has_5 (by decide) ?_
  refine px_icmp_ne 13 dX6_has_6 (by decide) (fun c6 => ?_) (fun c6 => ?_)
  · refine px_iconst (v := nI 0) dX6_has_13 (by decide) ?_
    have hm : hbit x i = false := by first | (simp [hbit, c6]; done) | (simp only [hbit, decide_eq_false_iff_not]; exact c6)
    exact px_bret (b := hbit x i) dX6_has_14 rfl rfl rfl (by rw [hm]; rfl) ⟨rfl, rfl⟩
  · refine px_iconst (v := nI 1) dX6_has_9 (by decide) ?_
    refine px_goto 14 dX6_has_10 (by decide) ?_
    have hm : hbit x i = true := by first | (simp [hbit, c6]; done) | (simp only [hbit, decide_eq_false_iff_not]; exact c6)
    exact px_bret (b := hbit x i) dX6_has_14 rfl rfl rfl (by rw [hm]; rfl) ⟨rfl, rfl⟩
theorem c_X6_has_n {E : xE} {h : xHp} (w i : Nat) (hw : w < 2 ^ 31) (hi : i < 32) : PMI E mX6_has [.int (nI w), .int (nI i)] h (bI (w.testBit i)) h := by
  rw [← hbit_n hw hi]
  exact c_X6_has (nI w) i
def bcn (s : Nat) : Nat → Nat
  | 0 => 0
  | k + 1 => bcn s k + s / 2 ^ k % 2
theorem bcn_6 (s : Nat) : bcn s 6 = bc s := by
  simp only [bcn, bc]
  omega
set_option maxHeartbeats 4000000 in
set_option maxRecDepth 100000 in
theorem l_X6_bits {E : xE} {h : xHp} (s : Nat) (hs : s < 64) : ∀ (n i : Nat), i ≤ 6 → 7 ≤ i + n → PW E mX6_bits (fun v h1 => v = some (.int (nI (bc s))) ∧ h1 = h) 0 0 4 [some (.int (nI s)), some (.int (nI (bcn s i))), some (.int (nI i))] [] h := by
  intro n
  induction n with
  | zero =>
    intro i h1 h2
    omega
  | succ n ih =>
    intro i h1 h2
    refine px_iload_n dX6_bits_4 rfl ?_
    refine px_bipush (v := nI 6) dX6_bits_5 (by decide) ?_
    refine px_icmp_geN 24 dX6_bits_7 (by decide) (by omega) (by omega) (fun c7 => ?_) (fun c7 => ?_)
    · refine px_iload_n dX6_bits_24 rfl ?_
      have hi : i = 6 := by omega
      subst hi
      exact px_iret dX6_bits_25 rfl rfl rfl ⟨by rw [bcn_6], rfl⟩
    · refine px_iload_n dX6_bits_10 rfl ?_
      refine px_iload_n dX6_bits_11 rfl ?_
      refine px_iload_n dX6_bits_12 rfl ?_
      refine px_ishrN dX6_bits_13 (by omega) (by omega) ?_
      refine px_iconst (v := nI 1) dX6_bits_14 (by decide) ?_
      refine px_iandN dX6_bits_15 (px_topi (congrArg nI (bit_and1 _)) ?_)
      refine px_iaddN dX6_bits_16 ?_
      refine px_istn_1 dX6_bits_17 (by decide) rfl ?_
      refine px_inc_2 dX6_bits_18 rfl (nI_1 _) (by decide) rfl ?_
      refine px_goto 4 dX6_bits_21 (by decide) ?_
      exact ih (i + 1) (by omega) (by omega)
set_option maxHeartbeats 4000000 in
set_option maxRecDepth 100000 in
theorem c_X6_bits {E : xE} {h : xHp} (s : Nat) (hs : s < 64) : PMI E mX6_bits [.int (nI s)] h (nI (bc s)) h := by
  refine pm_of [some (.int (nI s)), none, none] (by decide +kernel) (Nat.le_of_ble_eq_true rfl) rfl ?_
  refine px_iconst (v := nI 0) dX6_bits_0 (by decide) ?_
  refine px_istn_1 dX6_bits_1 (by decide) rfl ?_
  refine px_iconst (v := nI 0) dX6_bits_2 (by decide) ?_
  refine px_istn_2 dX6_bits_3 (by decide) rfl ?_
  exact l_X6_bits s hs 7 0 (by omega) (by omega)
def brc (D : xMd) (ka i kb j q : Nat) : xMd := sB D kb (va_cpy (D.1 ka) (D.1 kb) i j q)
def brA (ka i kb j cnt : Nat) : Prop := ka ≠ kb ∨ j ≤ i ∨ i + cnt ≤ j
theorem brv {D : xMd} {ka i kb j cnt q : Nat} (hap : brA ka i kb j cnt) (hq : q < cnt) : (brc D ka i kb j q).1 ka (i + q) = D.1 ka (i + q) := by
  unfold brc sB
  dsimp only
  by_cases hk : ka = kb
  · subst hk
    rw [va_up_self]
    unfold va_cpy
    unfold brA at hap
    rw [if_neg (by omega)]
  · rw [va_up_ne _ _ hk]
theorem brs {E : xE} {h : xHp} {w : Nat} {D : xMd} {ka i kb j q : Nat} : MH E h w (sB (brc D ka i kb j q) kb (va_up ((brc D ka i kb j q).1 kb) (j + q) (D.1 ka (i + q)))) = MH E h w (brc D ka i kb j (q + 1)) := by
  unfold brc
  rw [sB_twice, sB_at]
  congr 2
  funext x
  by_cases hx : x = j + q
  · subst hx
    rw [va_up_self]
    unfold va_cpy
    rw [if_pos (by omega), show j + q - j = q by omega]
  · rw [va_up_ne _ _ hx]
    unfold va_cpy
    by_cases h1 : j ≤ x ∧ x < j + q
    · rw [if_pos h1, if_pos (by omega)]
    · rw [if_neg h1, if_neg (by omega)]
theorem brc_0 {D : xMd} {ka i kb j : Nat} : brc D ka i kb j 0 = D := by
  unfold brc
  have : va_cpy (D.1 ka) (D.1 kb) i j 0 = D.1 kb := by
    funext x
    unfold va_cpy
    rw [if_neg (by omega)]
  rw [this, sB_self]
set_option maxHeartbeats 4000000 in
set_option maxRecDepth 100000 in
theorem l_X6_bring {E : xE} {h : xHp} {w : Nat} {D : xMd} (ka i kb j cnt : Nat) (hka : ka < 4) (hkb : kb < 4) (hi : i + cnt ≤ 216) (hj : j + cnt ≤ 216) (hap : brA ka i kb j cnt) : ∀ (n q : Nat), q ≤ cnt → cnt + 1 ≤ q + n → PW E mX6_bring (fun v h1 => v = none ∧ h1 = MH E h w (brc D ka i kb j cnt)) 0 0 3 [some (.ref (w + 5 + ka)), some (.int (nI i)), some (.ref (w + 5 + kb)), some (.int (nI j)), some (.int (nI cnt)), some (.int (nI q))] [] (MH E h w (brc D ka i kb j q)) := by
  intro n
  induction n with
  | zero =>
    intro q h1 h2
    omega
  | succ n ih =>
    intro q h1 h2
    refine px_iload dX6_bring_3 rfl ?_
    refine px_iload dX6_bring_5 rfl ?_
    refine px_icmp_geN 28 dX6_bring_7 (by decide) (by omega) (by omega) (fun c7 => ?_) (fun c7 => ?_)
    · have hq : q = cnt := by omega
      subst hq
      exact px_vret dX6_bring_28 rfl rfl rfl ⟨rfl, rfl⟩
    · refine px_aload_n dX6_bring_10 rfl ?_
      refine px_iload_n dX6_bring_11 rfl ?_
      refine px_iload dX6_bring_12 rfl ?_
      refine px_iaddN dX6_bring_14 ?_
      refine px_aload_n dX6_bring_15 rfl ?_
      refine px_iload_n dX6_bring_16 rfl ?_
      refine px_iload dX6_bring_17 rfl ?_
      refine px_iaddN dX6_bring_19 ?_
      refine px_bL rfl dX6_bring_20 hka (by omega) (brv hap (by omega)) ?_
      refine px_bW dX6_bring_21 hkb (by omega) (px_heap brs ?_)
      refine px_inc_5 dX6_bring_22 rfl (nI_1 _) (by decide) rfl ?_
      refine px_goto 3 dX6_bring_25 (by decide) ?_
      exact ih (q + 1) (by omega) (by omega)
set_option maxHeartbeats 4000000 in
set_option maxRecDepth 100000 in
theorem c_X6_bring {E : xE} {h : xHp} {w : Nat} {D : xMd} (ka i kb j cnt : Nat) (hka : ka < 4) (hkb : kb < 4) (hi : i + cnt ≤ 216) (hj : j + cnt ≤ 216) (hap : brA ka i kb j cnt) : PMV E mX6_bring [.ref (w + 5 + ka), .int (nI i), .ref (w + 5 + kb), .int (nI j), .int (nI cnt)] (MH E h w D) (MH E h w (brc D ka i kb j cnt)) := by
  refine pm_of [some (.ref (w + 5 + ka)), some (.int (nI i)), some (.ref (w + 5 + kb)), some (.int (nI j)), some (.int (nI cnt)), none] (by decide +kernel) (Nat.le_of_ble_eq_true rfl) rfl ?_
  refine px_iconst (v := nI 0) dX6_bring_0 (by decide) ?_
  refine px_ist_5 dX6_bring_1 (by decide) rfl ?_
  refine px_heap (h2 := MH E h w (brc D ka i kb j 0)) (by rw [brc_0]) ?_
  exact l_X6_bring ka i kb j cnt hka hkb hi hj hap (cnt + 1) 0 (by omega) (by omega)
