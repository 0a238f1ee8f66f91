/-! ===== RobbedOnce: one block of 157 cells ===== -/
abbrev xO : Type := ((Nat → xT) × (Nat → xP)) × ((Nat → xS) × xK × Bool)
def roC (E : xE) (z : Nat) (O : xO) (o : Nat) : Option va_E :=
  if o = 0 then some (.inr (5, [.ref (z + 1), .ref (z + 8), .ref (z + 66), .ref (z + 73), .int (bI O.2.2.2), .ref (z + 131), .ref (z + 139), .ref (z + 141), .ref (z + 148)]))
  else if o < 8 then twC E (z + 1) (O.1.1 0) (o - 1)
  else if o < 66 then phC E (z + 8) (O.1.2 0) (o - 8)
  else if o < 73 then twC E (z + 66) (O.1.1 1) (o - 66)
  else if o < 131 then phC E (z + 73) (O.1.2 1) (o - 73)
  else if o = 131 then some (.inr (0, [.ref (z + 132)]))
  else if o < 139 then twC E (z + 132) (O.1.1 2) (o - 132)
  else if o < 141 then khC E (z + 139) O.2.2.1 (o - 139)
  else if o < 148 then twC E (z + 141) (O.1.1 3) (o - 141)
  else if o = 148 then some (.inl (E.1.2 4, 4, .inr (.inr (.inr (.inr (fun s => some (z + 149 + 2 * s)))))))
  else shC E (z + 149 + 2 * ((o - 149) / 2)) (O.2.1 ((o - 149) / 2)) ((o - 149) % 2)
abbrev RO (E : xE) (h : xHp) (z : Nat) (O : xO) : xHp := putB h z 157 (roC E z O)
def oT (O : xO) (i : Nat) (T : xT) : xO := ((va_up O.1.1 i T, O.1.2), O.2)
def oP (O : xO) (i : Nat) (P : xP) : xO := ((O.1.1, va_up O.1.2 i P), O.2)
def oS (O : xO) (i : Nat) (S : xS) : xO := (O.1, (va_up O.2.1 i S, O.2.2))
def oK (O : xO) (K : xK) : xO := (O.1, (O.2.1, K, O.2.2.2))
def oB (O : xO) (b : Bool) : xO := (O.1, (O.2.1, O.2.2.1, b))
theorem vup_self {α : Type} (f : Nat → α) (i : Nat) : va_up f i (f i) = f := by
  funext j
  by_cases hj : j = i
  · subst hj; exact va_up_self _ _ _
  · exact va_up_ne _ _ hj
theorem oT_self (O : xO) (i : Nat) : oT O i (O.1.1 i) = O := by unfold oT; rw [vup_self]
theorem oP_self (O : xO) (i : Nat) : oP O i (O.1.2 i) = O := by unfold oP; rw [vup_self]
theorem oS_self (O : xO) (i : Nat) : oS O i (O.2.1 i) = O := by unfold oS; rw [vup_self]
theorem vup_twice {α : Type} (f : Nat → α) (i : Nat) (a b : α) : va_up (va_up f i a) i b = va_up f i b := by
  funext j
  by_cases hj : j = i
  · subst hj; rw [va_up_self, va_up_self]
  · rw [va_up_ne _ _ hj, va_up_ne _ _ hj, va_up_ne _ _ hj]
theorem oT_twice (O : xO) (i : Nat) (A B : xT) : oT (oT O i A) i B = oT O i B := by unfold oT; rw [vup_twice]
theorem oP_twice (O : xO) (i : Nat) (A B : xP) : oP (oP O i A) i B = oP O i B := by unfold oP; rw [vup_twice]
theorem oS_twice (O : xO) (i : Nat) (A B : xS) : oS (oS O i A) i B = oS O i B := by unfold oS; rw [vup_twice]
section RO
variable {E : xE} {h : xHp} {z : Nat} {O : xO}
theorem RO_obj : RO E h z O z = some (.inr (5, [.ref (z + 1), .ref (z + 8), .ref (z + 66), .ref (z + 73), .int (bI O.2.2.2), .ref (z + 131), .ref (z + 139), .ref (z + 141), .ref (z + 148)])) := putB_0 (by decide)
theorem RO_fo : RO E h z O (z + 131) = some (.inr (0, [.ref (z + 132)])) := (putB_at (j := 131) (by decide)).trans rfl
theorem RO_sh : RO E h z O (z + 148) = some (.inl (E.1.2 4, 4, .inr (.inr (.inr (.inr (fun s => some (z + 149 + 2 * s))))))) := (putB_at (j := 148) (by decide)).trans rfl
theorem ro_t0 {V : xT} : TH E (RO E h z O) (z + 1) V = RO E h z (oT O 0 V) := by
  unfold TH RO
  rw [putB_in (by decide)]
  refine putB_congr (fun o ho => ?_)
  by_cases h1 : 1 ≤ o ∧ o < 1 + 7
  · rw [if_pos h1]
    unfold roC
    rw [if_neg (show ¬ o = 0 by omega), if_pos (show o < 8 by omega)]
    rfl
  · rw [if_neg h1]
    unfold roC
    by_cases g0 : o = 0
    · rw [if_pos g0, if_pos g0]; try rfl
    · rw [if_neg g0, if_neg g0]
      rw [if_neg (show ¬ o < 8 by omega), if_neg (show ¬ o < 8 by omega)]
      by_cases g2 : o < 66
      · rw [if_pos g2, if_pos g2]; try rfl
      · rw [if_neg g2, if_neg g2]
        by_cases g3 : o < 73
        · rw [if_pos g3, if_pos g3]; try rfl
        · rw [if_neg g3, if_neg g3]
          by_cases g4 : o < 131
          · rw [if_pos g4, if_pos g4]; try rfl
          · rw [if_neg g4, if_neg g4]
            by_cases g5 : o = 131
            · rw [if_pos g5, if_pos g5]; try rfl
            · rw [if_neg g5, if_neg g5]
              by_cases g6 : o < 139
              · rw [if_pos g6, if_pos g6]; try rfl
              · rw [if_neg g6, if_neg g6]
                by_cases g7 : o < 141
                · rw [if_pos g7, if_pos g7]; try rfl
                · rw [if_neg g7, if_neg g7]
                  by_cases g8 : o < 148
                  · rw [if_pos g8, if_pos g8]; try rfl
                  · rw [if_neg g8, if_neg g8]
                    by_cases g9 : o = 148
                    · rw [if_pos g9, if_pos g9]; try rfl
                    · rw [if_neg g9, if_neg g9]
                      rfl
theorem ro_t0a : TH E (RO E h z O) (z + 1) (O.1.1 0) = RO E h z O := by rw [ro_t0, oT_self O 0]
theorem ro_p0 {V : xP} : PH E (RO E h z O) (z + 8) V = RO E h z (oP O 0 V) := by
  unfold PH RO
  rw [putB_in (by decide)]
  refine putB_congr (fun o ho => ?_)
  by_cases h1 : 8 ≤ o ∧ o < 8 + 58
  · rw [if_pos h1]
    unfold roC
    rw [if_neg (show ¬ o = 0 by omega), if_neg (show ¬ o < 8 by omega), if_pos (show o < 66 by omega)]
    rfl
  · rw [if_neg h1]
    unfold roC
    by_cases g0 : o = 0
    · rw [if_pos g0, if_pos g0]; try rfl
    · rw [if_neg g0, if_neg g0]
      by_cases g1 : o < 8
      · rw [if_pos g1, if_pos g1]; try rfl
      · rw [if_neg g1, if_neg g1]
        rw [if_neg (show ¬ o < 66 by omega), if_neg (show ¬ o < 66 by omega)]
        by_cases g3 : o < 73
        · rw [if_pos g3, if_pos g3]; try rfl
        · rw [if_neg g3, if_neg g3]
          by_cases g4 : o < 131
          · rw [if_pos g4, if_pos g4]; try rfl
          · rw [if_neg g4, if_neg g4]
            by_cases g5 : o = 131
            · rw [if_pos g5, if_pos g5]; try rfl
            · rw [if_neg g5, if_neg g5]
              by_cases g6 : o < 139
              · rw [if_pos g6, if_pos g6]; try rfl
              · rw [if_neg g6, if_neg g6]
                by_cases g7 : o < 141
                · rw [if_pos g7, if_pos g7]; try rfl
                · rw [if_neg g7, if_neg g7]
                  by_cases g8 : o < 148
                  · rw [if_pos g8, if_pos g8]; try rfl
                  · rw [if_neg g8, if_neg g8]
                    by_cases g9 : o = 148
                    · rw [if_pos g9, if_pos g9]; try rfl
                    · rw [if_neg g9, if_neg g9]
                      rfl
theorem ro_p0a : PH E (RO E h z O) (z + 8) (O.1.2 0) = RO E h z O := by rw [ro_p0, oP_self O 0]
theorem ro_t1 {V : xT} : TH E (RO E h z O) (z + 66) V = RO E h z (oT O 1 V) := by
  unfold TH RO
  rw [putB_in (by decide)]
  refine putB_congr (fun o ho => ?_)
  by_cases h1 : 66 ≤ o ∧ o < 66 + 7
  · rw [if_pos h1]
    unfold roC
    rw [if_neg (show ¬ o = 0 by omega), if_neg (show ¬ o < 8 by omega), if_neg (show ¬ o < 66 by omega), if_pos (show o < 73 by omega)]
    rfl
  · rw [if_neg h1]
    unfold roC
    by_cases g0 : o = 0
    · rw [if_pos g0, if_pos g0]; try rfl
    · rw [if_neg g0, if_neg g0]
      by_cases g1 : o < 8
      · rw [if_pos g1, if_pos g1]; try rfl
      · rw [if_neg g1, if_neg g1]
        by_cases g2 : o < 66
        · rw [if_pos g2, if_pos g2]; try rfl
        · rw [if_neg g2, if_neg g2]
          rw [if_neg (show ¬ o < 73 by omega), if_neg (show ¬ o < 73 by omega)]
          by_cases g4 : o < 131
          · rw [if_pos g4, if_pos g4]; try rfl
          · rw [if_neg g4, if_neg g4]
            by_cases g5 : o = 131
            · rw [if_pos g5, if_pos g5]; try rfl
            · rw [if_neg g5, if_neg g5]
              by_cases g6 : o < 139
              · rw [if_pos g6, if_pos g6]; try rfl
              · rw [if_neg g6, if_neg g6]
                by_cases g7 : o < 141
                · rw [if_pos g7, if_pos g7]; try rfl
                · rw [if_neg g7, if_neg g7]
                  by_cases g8 : o < 148
                  · rw [if_pos g8, if_pos g8]; try rfl
                  · rw [if_neg g8, if_neg g8]
                    by_cases g9 : o = 148
                    · rw [if_pos g9, if_pos g9]; try rfl
                    · rw [if_neg g9, if_neg g9]
                      rfl
theorem ro_t1a : TH E (RO E h z O) (z + 66) (O.1.1 1) = RO E h z O := by rw [ro_t1, oT_self O 1]
theorem ro_p1 {V : xP} : PH E (RO E h z O) (z + 73) V = RO E h z (oP O 1 V) := by
  unfold PH RO
  rw [putB_in (by decide)]
  refine putB_congr (fun o ho => ?_)
  by_cases h1 : 73 ≤ o ∧ o < 73 + 58
  · rw [if_pos h1]
    unfold roC
    rw [if_neg (show ¬ o = 0 by omega), if_neg (show ¬ o < 8 by omega), if_neg (show ¬ o < 66 by omega), if_neg (show ¬ o < 73 by omega), if_pos (show o < 131 by omega)]
    rfl
  · rw [if_neg h1]
    unfold roC
    by_cases g0 : o = 0
    · rw [if_pos g0, if_pos g0]; try rfl
    · rw [if_neg g0, if_neg g0]
      by_cases g1 : o < 8
      · rw [if_pos g1, if_pos g1]; try rfl
      · rw [if_neg g1, if_neg g1]
        by_cases g2 : o < 66
        · rw [if_pos g2, if_pos g2]; try rfl
        · rw [if_neg g2, if_neg g2]
          by_cases g3 : o < 73
          · rw [if_pos g3, if_pos g3]; try rfl
          · rw [if_neg g3, if_neg g3]
            rw [if_neg (show ¬ o < 131 by omega), if_neg (show ¬ o < 131 by omega)]
            by_cases g5 : o = 131
            · rw [if_pos g5, if_pos g5]; try rfl
            · rw [if_neg g5, if_neg g5]
              by_cases g6 : o < 139
              · rw [if_pos g6, if_pos g6]; try rfl
              · rw [if_neg g6, if_neg g6]
                by_cases g7 : o < 141
                · rw [if_pos g7, if_pos g7]; try rfl
                · rw [if_neg g7, if_neg g7]
                  by_cases g8 : o < 148
                  · rw [if_pos g8, if_pos g8]; try rfl
                  · rw [if_neg g8, if_neg g8]
                    by_cases g9 : o = 148
                    · rw [if_pos g9, if_pos g9]; try rfl
                    · rw [if_neg g9, if_neg g9]
                      rfl
theorem ro_p1a : PH E (RO E h z O) (z + 73) (O.1.2 1) = RO E h z O := by rw [ro_p1, oP_self O 1]
theorem ro_t2 {V : xT} : TH E (RO E h z O) (z + 132) V = RO E h z (oT O 2 V) := by
  unfold TH RO
  rw [putB_in (by decide)]
  refine putB_congr (fun o ho => ?_)
  by_cases h1 : 132 ≤ o ∧ o < 132 + 7
  · rw [if_pos h1]
    unfold roC
    rw [if_neg (show ¬ o = 0 by omega), if_neg (show ¬ o < 8 by omega), if_neg (show ¬ o < 66 by omega), if_neg (show ¬ o < 73 by omega), if_neg (show ¬ o < 131 by omega), if_neg (show ¬ o = 131 by omega), if_pos (show o < 139 by omega)]
    rfl
  · rw [if_neg h1]
    unfold roC
    by_cases g0 : o = 0
    · rw [if_pos g0, if_pos g0]; try rfl
    · rw [if_neg g0, if_neg g0]
      by_cases g1 : o < 8
      · rw [if_pos g1, if_pos g1]; try rfl
      · rw [if_neg g1, if_neg g1]
        by_cases g2 : o < 66
        · rw [if_pos g2, if_pos g2]; try rfl
        · rw [if_neg g2, if_neg g2]
          by_cases g3 : o < 73
          · rw [if_pos g3, if_pos g3]; try rfl
          · rw [if_neg g3, if_neg g3]
            by_cases g4 : o < 131
            · rw [if_pos g4, if_pos g4]; try rfl
            · rw [if_neg g4, if_neg g4]
              by_cases g5 : o = 131
              · rw [if_pos g5, if_pos g5]; try rfl
              · rw [if_neg g5, if_neg g5]
                rw [if_neg (show ¬ o < 139 by omega), if_neg (show ¬ o < 139 by omega)]
                by_cases g7 : o < 141
                · rw [if_pos g7, if_pos g7]; try rfl
                · rw [if_neg g7, if_neg g7]
                  by_cases g8 : o < 148
                  · rw [if_pos g8, if_pos g8]; try rfl
                  · rw [if_neg g8, if_neg g8]
                    by_cases g9 : o = 148
                    · rw [if_pos g9, if_pos g9]; try rfl
                    · rw [if_neg g9, if_neg g9]
                      rfl
theorem ro_t2a : TH E (RO E h z O) (z + 132) (O.1.1 2) = RO E h z O := by rw [ro_t2, oT_self O 2]
theorem ro_k {V : xK} : KH E (RO E h z O) (z + 139) V = RO E h z (oK O V) := by
  unfold KH RO
  rw [putB_in (by decide)]
  refine putB_congr (fun o ho => ?_)
  by_cases h1 : 139 ≤ o ∧ o < 139 + 2
  · rw [if_pos h1]
    unfold roC
    rw [if_neg (show ¬ o = 0 by omega), if_neg (show ¬ o < 8 by omega), if_neg (show ¬ o < 66 by omega), if_neg (show ¬ o < 73 by omega), if_neg (show ¬ o < 131 by omega), if_neg (show ¬ o = 131 by omega), if_neg (show ¬ o < 139 by omega), if_pos (show o < 141 by omega)]
    rfl
  · rw [if_neg h1]
    unfold roC
    by_cases g0 : o = 0
    · rw [if_pos g0, if_pos g0]; try rfl
    · rw [if_neg g0, if_neg g0]
      by_cases g1 : o < 8
      · rw [if_pos g1, if_pos g1]; try rfl
      · rw [if_neg g1, if_neg g1]
        by_cases g2 : o < 66
        · rw [if_pos g2, if_pos g2]; try rfl
        · rw [if_neg g2, if_neg g2]
          by_cases g3 : o < 73
          · rw [if_pos g3, if_pos g3]; try rfl
          · rw [if_neg g3, if_neg g3]
            by_cases g4 : o < 131
            · rw [if_pos g4, if_pos g4]; try rfl
            · rw [if_neg g4, if_neg g4]
              by_cases g5 : o = 131
              · rw [if_pos g5, if_pos g5]; try rfl
              · rw [if_neg g5, if_neg g5]
                by_cases g6 : o < 139
                · rw [if_pos g6, if_pos g6]; try rfl
                · rw [if_neg g6, if_neg g6]
                  rw [if_neg (show ¬ o < 141 by omega), if_neg (show ¬ o < 141 by omega)]
                  by_cases g8 : o < 148
                  · rw [if_pos g8, if_pos g8]; try rfl
                  · rw [if_neg g8, if_neg g8]
                    by_cases g9 : o = 148
                    · rw [if_pos g9, if_pos g9]; try rfl
                    · rw [if_neg g9, if_neg g9]
                      rfl
theorem ro_ka : KH E (RO E h z O) (z + 139) (O.2.2.1) = RO E h z O := by rw [ro_k]; rfl
theorem ro_t3 {V : xT} : TH E (RO E h z O) (z + 141) V = RO E h z (oT O 3 V) := by
  unfold TH RO
  rw [putB_in (by decide)]
  refine putB_congr (fun o ho => ?_)
  by_cases h1 : 141 ≤ o ∧ o < 141 + 7
  · rw [if_pos h1]
    unfold roC
    rw [if_neg (show ¬ o = 0 by omega), if_neg (show ¬ o < 8 by omega), if_neg (show ¬ o < 66 by omega), if_neg (show ¬ o < 73 by omega), if_neg (show ¬ o < 131 by omega), if_neg (show ¬ o = 131 by omega), if_neg (show ¬ o < 139 by omega), if_neg (show ¬ o < 141 by omega), if_pos (show o < 148 by omega)]
    rfl
  · rw [if_neg h1]
    unfold roC
    by_cases g0 : o = 0
    · rw [if_pos g0, if_pos g0]; try rfl
    · rw [if_neg g0, if_neg g0]
      by_cases g1 : o < 8
      · rw [if_pos g1, if_pos g1]; try rfl
      · rw [if_neg g1, if_neg g1]
        by_cases g2 : o < 66
        · rw [if_pos g2, if_pos g2]; try rfl
        · rw [if_neg g2, if_neg g2]
          by_cases g3 : o < 73
          · rw [if_pos g3, if_pos g3]; try rfl
          · rw [if_neg g3, if_neg g3]
            by_cases g4 : o < 131
            · rw [if_pos g4, if_pos g4]; try rfl
            · rw [if_neg g4, if_neg g4]
              by_cases g5 : o = 131
              · rw [if_pos g5, if_pos g5]; try rfl
              · rw [if_neg g5, if_neg g5]
                by_cases g6 : o < 139
                · rw [if_pos g6, if_pos g6]; try rfl
                · rw [if_neg g6, if_neg g6]
                  by_cases g7 : o < 141
                  · rw [if_pos g7, if_pos g7]; try rfl
                  · rw [if_neg g7, if_neg g7]
                    rw [if_neg (show ¬ o < 148 by omega), if_neg (show ¬ o < 148 by omega)]
                    by_cases g9 : o = 148
                    · rw [if_pos g9, if_pos g9]; try rfl
                    · rw [if_neg g9, if_neg g9]
                      rfl
theorem ro_t3a : TH E (RO E h z O) (z + 141) (O.1.1 3) = RO E h z O := by rw [ro_t3, oT_self O 3]
theorem ro_s {s : Nat} {V : xS} (hs : s < 4) : SH E (RO E h z O) (z + 149 + 2 * s) V = RO E h z (oS O s V) := by
  unfold SH RO
  rw [show z + 149 + 2 * s = z + (149 + 2 * s) by omega, putB_in (by omega)]
  refine putB_congr (fun o ho => ?_)
  by_cases h1 : 149 + 2 * s ≤ o ∧ o < 149 + 2 * s + 2
  · rw [if_pos h1]
    unfold roC
    rw [if_neg (show ¬ o = 0 by omega), if_neg (show ¬ o < 8 by omega), if_neg (show ¬ o < 66 by omega), if_neg (show ¬ o < 73 by omega), if_neg (show ¬ o < 131 by omega), if_neg (show ¬ o = 131 by omega), if_neg (show ¬ o < 139 by omega), if_neg (show ¬ o < 141 by omega), if_neg (show ¬ o < 148 by omega), if_neg (show ¬ o = 148 by omega)]
    have e1 : (o - 149) / 2 = s := by omega
    have e2 : (o - 149) % 2 = o - (149 + 2 * s) := by omega
    rw [e1, e2, oS]
    dsimp only
    rw [va_up_self, show z + 149 + 2 * s = z + (149 + 2 * s) by omega]
  · rw [if_neg h1]
    unfold roC
    by_cases g0 : o = 0
    · rw [if_pos g0, if_pos g0]; try rfl
    · rw [if_neg g0, if_neg g0]
      by_cases g1 : o < 8
      · rw [if_pos g1, if_pos g1]; try rfl
      · rw [if_neg g1, if_neg g1]
        by_cases g2 : o < 66
        · rw [if_pos g2, if_pos g2]; try rfl
        · rw [if_neg g2, if_neg g2]
          by_cases g3 : o < 73
          · rw [if_pos g3, if_pos g3]; try rfl
          · rw [if_neg g3, if_neg g3]
            by_cases g4 : o < 131
            · rw [if_pos g4, if_pos g4]; try rfl
            · rw [if_neg g4, if_neg g4]
              by_cases g5 : o = 131
              · rw [if_pos g5, if_pos g5]; try rfl
              · rw [if_neg g5, if_neg g5]
                by_cases g6 : o < 139
                · rw [if_pos g6, if_pos g6]; try rfl
                · rw [if_neg g6, if_neg g6]
                  by_cases g7 : o < 141
                  · rw [if_pos g7, if_pos g7]; try rfl
                  · rw [if_neg g7, if_neg g7]
                    by_cases g8 : o < 148
                    · rw [if_pos g8, if_pos g8]; try rfl
                    · rw [if_neg g8, if_neg g8]
                      by_cases g9 : o = 148
                      · rw [if_pos g9, if_pos g9]; try rfl
                      · rw [if_neg g9, if_neg g9]
                        rw [oS]
                        dsimp only
                        rw [va_up_ne _ _ (show (o - 149) / 2 ≠ s by omega)]
theorem ro_sa {s : Nat} (hs : s < 4) : SH E (RO E h z O) (z + 149 + 2 * s) (O.2.1 s) = RO E h z O := by rw [ro_s hs, oS_self]
theorem ro_b {b : Bool} : va_up (RO E h z O) z (some (.inr (5, [.ref (z + 1), .ref (z + 8), .ref (z + 66), .ref (z + 73), .int (bI b), .ref (z + 131), .ref (z + 139), .ref (z + 141), .ref (z + 148)]))) = RO E h z (oB O b) := by
  have e0 : ∀ c, va_up (RO E h z O) z c = va_up (RO E h z O) (z + 0) c := fun _ => rfl
  rw [e0]
  unfold RO
  rw [putB_up (by omega)]
  refine putB_congr (fun q hq => ?_)
  by_cases h0 : q = 0
  · subst h0; rw [va_up_self]; rfl
  · rw [va_up_ne _ _ h0]
    unfold roC
    rw [if_neg h0, if_neg h0]
    rfl
theorem ro_xfo : xFo (RO E h z O) (z + 131) (z + 1) (z + 132) := ⟨RO_fo, by omega, by omega, by omega⟩
theorem ro_fh {T : xT} : FH E (RO E h z O) (z + 1) (z + 132) (O.1.1 0) T = RO E h z (oT O 2 T) := by
  unfold FH
  rw [ro_t0a, ro_t2]
theorem ro_fha : FH E (RO E h z O) (z + 1) (z + 132) (O.1.1 0) (O.1.1 2) = RO E h z O := by rw [ro_fh, oT_self]
end RO
