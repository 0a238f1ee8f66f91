theorem nI_bv (a : Nat) : (nI a).toBitVec = BitVec.ofNat 32 a := rfl
theorem i32_ext {x y : Int32} (h : x.toBitVec = y.toBitVec) : x = y := Int32.toBitVec_inj.mp h
theorem nx_and (a b : Nat) : nI a &&& nI b = nI (a &&& b) := by
  apply i32_ext
  rw [Int32.toBitVec_and, nI_bv, nI_bv, nI_bv, BitVec.ofNat_and]
theorem nx_or (a b : Nat) : nI a ||| nI b = nI (a ||| b) := by
  apply i32_ext
  rw [Int32.toBitVec_or, nI_bv, nI_bv, nI_bv, BitVec.ofNat_or]
theorem nx_c31 : ∀ a, a < 32 → ((nI a &&& 31).toBitVec.smod 32).toNat = a := by decide +kernel
theorem nx_shl (x : Nat) {a : Nat} (ha : a < 32) : nI x <<< (nI a &&& 31) = nI (x * 2 ^ a) := by
  apply i32_ext
  apply BitVec.eq_of_toNat_eq
  rw [pk_shl _ _ a (nx_c31 a ha), nI_bv, nI_bv, BitVec.toNat_ofNat, BitVec.toNat_ofNat, Nat.mod_mul_mod]
theorem nx_shr {x a : Nat} (hx : x < 2 ^ 31) (ha : a < 32) : nI x >>> (nI a &&& 31) = nI (x / 2 ^ a) := pk_shrN hx _ a (nx_c31 a ha)
theorem nx_m1 : ∀ x : Int32, x ^^^ (-1) = ~~~ x := by
  intro x
  apply i32_ext
  rw [Int32.toBitVec_xor, Int32.toBitVec_not]
  exact BitVec.xor_allOnes
section PXN
variable {E : xE} {M : xM} {Q : Option Value → xHp → Prop} {k n pc : Nat} {lo : List (Option Value)} {r : List Value} {h : xHp} {a b : Nat}
theorem px_iaddN (hd : decode (xC M) pc = .ok (.iadd, 1)) (kk : PW E M Q k n (pc + 1) lo (.int (nI (a + b)) :: r) h) : PW E M Q k n pc lo (.int (nI b) :: .int (nI a) :: r) h := px_iadd hd (px_topi (nI_add a b) kk)
theorem px_isubN (hd : decode (xC M) pc = .ok (.isub, 1)) (hab : b ≤ a) (kk : PW E M Q k n (pc + 1) lo (.int (nI (a - b)) :: r) h) : PW E M Q k n pc lo (.int (nI b) :: .int (nI a) :: r) h := px_isub hd (px_topi (pk_sub hab) kk)
theorem px_imulN (hd : decode (xC M) pc = .ok (.imul, 1)) (kk : PW E M Q k n (pc + 1) lo (.int (nI (a * b)) :: r) h) : PW E M Q k n pc lo (.int (nI b) :: .int (nI a) :: r) h := px_imul hd (px_topi (pk_mul a b) kk)
theorem px_iandN (hd : decode (xC M) pc = .ok (.iand, 1)) (kk : PW E M Q k n (pc + 1) lo (.int (nI (a &&& b)) :: r) h) : PW E M Q k n pc lo (.int (nI b) :: .int (nI a) :: r) h := px_iand hd (px_topi (nx_and a b) kk)
theorem px_iorN (hd : decode (xC M) pc = .ok (.ior, 1)) (kk : PW E M Q k n (pc + 1) lo (.int (nI (a ||| b)) :: r) h) : PW E M Q k n pc lo (.int (nI b) :: .int (nI a) :: r) h := px_ior hd (px_topi (nx_or a b) kk)
theorem px_ishlN (hd : decode (xC M) pc = .ok (.ishl, 1)) (hb : b < 32) (kk : PW E M Q k n (pc + 1) lo (.int (nI (a * 2 ^ b)) :: r) h) : PW E M Q k n pc lo (.int (nI b) :: .int (nI a) :: r) h := px_ishl hd (px_topi (nx_shl a hb) kk)
theorem px_ishl1 (hd : decode (xC M) pc = .ok (.ishl, 1)) (hb : b < 32) (kk : PW E M Q k n (pc + 1) lo (.int (nI (2 ^ b)) :: r) h) : PW E M Q k n pc lo (.int (nI b) :: .int (nI 1) :: r) h := px_ishl hd (px_topi (by rw [nx_shl 1 hb, Nat.one_mul]) kk)
theorem px_ishrN (hd : decode (xC M) pc = .ok (.ishr, 1)) (ha : a < 2 ^ 31) (hb : b < 32) (kk : PW E M Q k n (pc + 1) lo (.int (nI (a / 2 ^ b)) :: r) h) : PW E M Q k n pc lo (.int (nI b) :: .int (nI a) :: r) h := px_ishr hd (px_topi (nx_shr ha hb) kk)
theorem px_idivN (hd : decode (xC M) pc = .ok (.idiv, 1)) (ha : a < 2 ^ 31) (h0 : 0 < b) (hb : b < 2 ^ 31) (kk : PW E M Q k n (pc + 1) lo (.int (nI (a / b)) :: r) h) : PW E M Q k n pc lo (.int (nI b) :: .int (nI a) :: r) h := px_idiv hd (nI_ne0 h0 hb) (px_topi (pk_div ha h0 hb) kk)
theorem px_iremN (hd : decode (xC M) pc = .ok (.irem, 1)) (ha : a < 2 ^ 31) (h0 : 0 < b) (hb : b < 2 ^ 31) (kk : PW E M Q k n (pc + 1) lo (.int (nI (a % b)) :: r) h) : PW E M Q k n pc lo (.int (nI b) :: .int (nI a) :: r) h := px_irem hd (nI_ne0 h0 hb) (px_topi (pk_rem ha h0 hb) kk)
theorem px_iincN {j : Nat} (hd : decode (xC M) pc = .ok (.iinc j 1, 3)) (hx : lo[j]? = some (some (.int (nI a)))) (hn : j < xL M) (hok : xSt lo j = true) (kk : PW E M Q k n (pc + 3) (lo.set j (some (.int (nI (a + 1))))) r h) : PW E M Q k n pc lo r h := px_iinc hd hx (nI_1 a) hn hok kk
theorem px_iincD {j : Nat} (hd : decode (xC M) pc = .ok (.iinc j (-1), 3)) (hx : lo[j]? = some (some (.int (nI (a + 1))))) (hn : j < xL M) (hok : xSt lo j = true) (kk : PW E M Q k n (pc + 3) (lo.set j (some (.int (nI a)))) r h) : PW E M Q k n pc lo r h := px_iinc hd hx (pk_m1 a) hn hok kk
theorem px_icmp_ltN {off : Int} (tgt : Nat) (hd : decode (xC M) pc = .ok (.if_icmp .lt off, 3)) (ht : (pc : Int) + off = (tgt : Int)) (ha : a < 2 ^ 31) (hb : b < 2 ^ 31) (kt : a < b → PW E M Q k n tgt lo r h) (kf : b ≤ a → PW E M Q k n (pc + 3) lo r h) : PW E M Q k n pc lo (.int (nI b) :: .int (nI a) :: r) h := px_icmp_lt tgt hd ht (fun z => kt ((nI_ltI ha hb).mp z)) (fun z => kf (Nat.not_lt.mp (fun q => z ((nI_ltI ha hb).mpr q))))
theorem px_icmp_geN {off : Int} (tgt : Nat) (hd : decode (xC M) pc = .ok (.if_icmp .ge off, 3)) (ht : (pc : Int) + off = (tgt : Int)) (ha : a < 2 ^ 31) (hb : b < 2 ^ 31) (kt : b ≤ a → PW E M Q k n tgt lo r h) (kf : a < b → PW E M Q k n (pc + 3) lo r h) : PW E M Q k n pc lo (.int (nI b) :: .int (nI a) :: r) h := px_icmp_ge tgt hd ht (fun z => kt ((nI_leI hb ha).mp z)) (fun z => kf (Nat.not_le.mp (fun q => z ((nI_leI hb ha).mpr q))))
theorem px_icmp_gtN {off : Int} (tgt : Nat) (hd : decode (xC M) pc = .ok (.if_icmp .gt off, 3)) (ht : (pc : Int) + off = (tgt : Int)) (ha : a < 2 ^ 31) (hb : b < 2 ^ 31) (kt : b < a → PW E M Q k n tgt lo r h) (kf : a ≤ b → PW E M Q k n (pc + 3) lo r h) : PW E M Q k n pc lo (.int (nI b) :: .int (nI a) :: r) h := px_icmp_gt tgt hd ht (fun z => kt ((nI_ltI hb ha).mp z)) (fun z => kf (Nat.not_lt.mp (fun q => z ((nI_ltI hb ha).mpr q))))
theorem px_icmp_leN {off : Int} (tgt : Nat) (hd : decode (xC M) pc = .ok (.if_icmp .le off, 3)) (ht : (pc : Int) + off = (tgt : Int)) (ha : a < 2 ^ 31) (hb : b < 2 ^ 31) (kt : a ≤ b → PW E M Q k n tgt lo r h) (kf : b < a → PW E M Q k n (pc + 3) lo r h) : PW E M Q k n pc lo (.int (nI b) :: .int (nI a) :: r) h := px_icmp_le tgt hd ht (fun z => kt ((nI_leI ha hb).mp z)) (fun z => kf (Nat.not_le.mp (fun q => z ((nI_leI ha hb).mpr q))))
theorem px_icmp_eqN {off : Int} (tgt : Nat) (hd : decode (xC M) pc = .ok (.if_icmp .eq off, 3)) (ht : (pc : Int) + off = (tgt : Int)) (ha : a < 2 ^ 31) (hb : b < 2 ^ 31) (kt : a = b → PW E M Q k n tgt lo r h) (kf : a ≠ b → PW E M Q k n (pc + 3) lo r h) : PW E M Q k n pc lo (.int (nI b) :: .int (nI a) :: r) h := px_icmp_eq tgt hd ht (fun z => kt ((nI_eq ha hb).mp z)) (fun z => kf (fun q => z ((nI_eq ha hb).mpr q)))
theorem px_icmp_neN {off : Int} (tgt : Nat) (hd : decode (xC M) pc = .ok (.if_icmp .ne off, 3)) (ht : (pc : Int) + off = (tgt : Int)) (ha : a < 2 ^ 31) (hb : b < 2 ^ 31) (kt : a ≠ b → PW E M Q k n tgt lo r h) (kf : a = b → PW E M Q k n (pc + 3) lo r h) : PW E M Q k n pc lo (.int (nI b) :: .int (nI a) :: r) h := px_icmp_ne tgt hd ht (fun z => kt (fun q => z ((nI_eq ha hb).mpr q))) (fun z => kf ((nI_eq ha hb).mp z))
theorem nI_z {a : Nat} (ha : a < 2 ^ 31) : nI a = 0 ↔ a = 0 := nI_eq (b := 0) ha (by decide)
theorem px_if_eqN {off : Int} (tgt : Nat) (hd : decode (xC M) pc = .ok (.ifCond .eq off, 3)) (ht : (pc : Int) + off = (tgt : Int)) (ha : a < 2 ^ 31) (kt : a = 0 → PW E M Q k n tgt lo r h) (kf : a ≠ 0 → PW E M Q k n (pc + 3) lo r h) : PW E M Q k n pc lo (.int (nI a) :: r) h := px_if_eq tgt hd ht (fun z => kt ((nI_z ha).mp z)) (fun z => kf (fun q => z ((nI_z ha).mpr q)))
theorem px_if_neN {off : Int} (tgt : Nat) (hd : decode (xC M) pc = .ok (.ifCond .ne off, 3)) (ht : (pc : Int) + off = (tgt : Int)) (ha : a < 2 ^ 31) (kt : a ≠ 0 → PW E M Q k n tgt lo r h) (kf : a = 0 → PW E M Q k n (pc + 3) lo r h) : PW E M Q k n pc lo (.int (nI a) :: r) h := px_if_ne tgt hd ht (fun z => kt (fun q => z ((nI_z ha).mpr q))) (fun z => kf ((nI_z ha).mp z))
/-- a truth value on the stack -/
def bI (b : Bool) : Int32 := nI b.toNat
theorem bI_t : bI true = nI 1 := rfl
theorem bI_f : bI false = nI 0 := rfl
theorem bI_z (b : Bool) : bI b = 0 ↔ b = false := by cases b <;> decide
theorem px_if_eqB {b : Bool} {off : Int} (tgt : Nat) (hd : decode (xC M) pc = .ok (.ifCond .eq off, 3)) (ht : (pc : Int) + off = (tgt : Int)) (kt : b = false → PW E M Q k n tgt lo r h) (kf : b = true → PW E M Q k n (pc + 3) lo r h) : PW E M Q k n pc lo (.int (bI b) :: r) h := px_if_eq tgt hd ht (fun z => kt ((bI_z b).mp z)) (fun z => kf (by cases b with | false => exact absurd rfl z | true => rfl))
theorem px_if_neB {b : Bool} {off : Int} (tgt : Nat) (hd : decode (xC M) pc = .ok (.ifCond .ne off, 3)) (ht : (pc : Int) + off = (tgt : Int)) (kt : b = true → PW E M Q k n tgt lo r h) (kf : b = false → PW E M Q k n (pc + 3) lo r h) : PW E M Q k n pc lo (.int (bI b) :: r) h := px_if_ne tgt hd ht (fun z => kt (by cases b with | false => exact absurd rfl z | true => rfl)) (fun z => kf ((bI_z b).mp z))
theorem bI_nar (b : Bool) : narrow .boolean (.int (bI b)) = .int (bI b) := by cases b <;> rfl
theorem px_bret {b : Bool} {v : Int32} (hd : decode (xC M) pc = .ok (.ireturn, 1)) (hr : xR M = some .boolean) (hk : k = xmc M) (hn : n = xms M) (hv : v = bI b) (hq : Q (some (.int (bI b))) h) : PW E M Q k n pc lo [.int v] h := by
  subst hv
  exact px_zret hd hr (bI_nar b) hk hn hq
end PXN
/-! contracts whose answer and heap are told -/
abbrev PMI (E : xE) (M : xM) (av : List Value) (h : xHp) (x : Int32) (h2 : xHp) : Prop := PMet E M av h (fun v h' => v = some (.int x) ∧ h' = h2)
abbrev PMV (E : xE) (M : xM) (av : List Value) (h h2 : xHp) : Prop := PMet E M av h (fun v h' => v = none ∧ h' = h2)
abbrev PMR (E : xE) (M : xM) (av : List Value) (h : xHp) (a : Nat) (h2 : xHp) : Prop := PMet E M av h (fun v h' => v = some (.ref a) ∧ h' = h2)
section PXC
variable {E : xE} {M M2 : xM} {Q : Option Value → xHp → Prop} {pc idx np b ci N : Nat} {lo : List (Option Value)} {r As fs st : List Value} {h h2 : xHp} {T : u_T}
theorem px_vi {x : Int32} (hm : PMI E M2 (.ref b :: As) h x h2) (hw : xMW M2 np) (hi : Cond.instanceMethod (xY M2) ∈ GW) (hse : Cond.selects (xY M2).cls (xY M2) (xY M2) ∈ GW) (hl : xML (xY M).cls idx (xY M2)) (hd : decode (xC M) pc = .ok (.invokevirtual idx, 3)) (hb : h b = some (.inr (ci, fs))) (hc : vwCl[ci]? = some ((xY M2).cls, T, N)) (hR : xd M2 + 1 ≤ xd M ∧ 8 + (xL M2 + 11) + 39 * xd M2 ≤ 39 * xd M) (hn : As.length = np) (hst : st = As.reverse ++ .ref b :: r) (hcat : (r.map fun v => v.category).sum ≤ 8) (hz : xmc M2 = 0 ∧ xms M2 = 0)
    (kk : PW E M Q 0 0 (pc + 3) lo (.int x :: r) h2) : PW E M Q 0 0 pc lo st h := by
  refine px_callV hm hw hi hse hl hd hb hc hR hn hst hcat ⟨by rw [hz.1]; exact Nat.zero_le _, by rw [hz.2]; exact Nat.zero_le _⟩ (fun v h' hq => ?_)
  obtain ⟨rfl, rfl⟩ := hq
  rw [hz.1, hz.2]
  exact kk
theorem px_vv (hm : PMV E M2 (.ref b :: As) h h2) (hw : xMW M2 np) (hi : Cond.instanceMethod (xY M2) ∈ GW) (hse : Cond.selects (xY M2).cls (xY M2) (xY M2) ∈ GW) (hl : xML (xY M).cls idx (xY M2)) (hd : decode (xC M) pc = .ok (.invokevirtual idx, 3)) (hb : h b = some (.inr (ci, fs))) (hc : vwCl[ci]? = some ((xY M2).cls, T, N)) (hR : xd M2 + 1 ≤ xd M ∧ 8 + (xL M2 + 11) + 39 * xd M2 ≤ 39 * xd M) (hn : As.length = np) (hst : st = As.reverse ++ .ref b :: r) (hcat : (r.map fun v => v.category).sum ≤ 8) (hz : xmc M2 = 0 ∧ xms M2 = 0)
    (kk : PW E M Q 0 0 (pc + 3) lo r h2) : PW E M Q 0 0 pc lo st h := by
  refine px_callV hm hw hi hse hl hd hb hc hR hn hst hcat ⟨by rw [hz.1]; exact Nat.zero_le _, by rw [hz.2]; exact Nat.zero_le _⟩ (fun v h' hq => ?_)
  obtain ⟨rfl, rfl⟩ := hq
  rw [hz.1, hz.2]
  exact kk
theorem px_vr {a : Nat} (hm : PMR E M2 (.ref b :: As) h a h2) (hw : xMW M2 np) (hi : Cond.instanceMethod (xY M2) ∈ GW) (hse : Cond.selects (xY M2).cls (xY M2) (xY M2) ∈ GW) (hl : xML (xY M).cls idx (xY M2)) (hd : decode (xC M) pc = .ok (.invokevirtual idx, 3)) (hb : h b = some (.inr (ci, fs))) (hc : vwCl[ci]? = some ((xY M2).cls, T, N)) (hR : xd M2 + 1 ≤ xd M ∧ 8 + (xL M2 + 11) + 39 * xd M2 ≤ 39 * xd M) (hn : As.length = np) (hst : st = As.reverse ++ .ref b :: r) (hcat : (r.map fun v => v.category).sum ≤ 8) (hz : xmc M2 = 0 ∧ xms M2 = 0)
    (kk : PW E M Q 0 0 (pc + 3) lo (.ref a :: r) h2) : PW E M Q 0 0 pc lo st h := by
  refine px_callV hm hw hi hse hl hd hb hc hR hn hst hcat ⟨by rw [hz.1]; exact Nat.zero_le _, by rw [hz.2]; exact Nat.zero_le _⟩ (fun v h' hq => ?_)
  obtain ⟨rfl, rfl⟩ := hq
  rw [hz.1, hz.2]
  exact kk
theorem px_si {x : Int32} (hm : PMI E M2 As h x h2) (hw : xMW M2 np) (hi : Cond.static (xY M2) ∈ GW) (hl : xML (xY M).cls idx (xY M2)) (hd : decode (xC M) pc = .ok (.invokestatic idx, 3)) (hR : xd M2 + 1 ≤ xd M ∧ 8 + (xL M2 + 11) + 39 * xd M2 ≤ 39 * xd M) (hn : As.length = np) (hst : st = As.reverse ++ r) (hcat : (r.map fun v => v.category).sum ≤ 8) (hz : xmc M2 = 0 ∧ xms M2 = 0)
    (kk : PW E M Q 0 0 (pc + 3) lo (.int x :: r) h2) : PW E M Q 0 0 pc lo st h := by
  refine px_callS hm hw hi hl hd hR hn hst hcat ⟨by rw [hz.1]; exact Nat.zero_le _, by rw [hz.2]; exact Nat.zero_le _⟩ (fun v h' hq => ?_)
  obtain ⟨rfl, rfl⟩ := hq
  rw [hz.1, hz.2]
  exact kk
theorem px_sv (hm : PMV E M2 As h h2) (hw : xMW M2 np) (hi : Cond.static (xY M2) ∈ GW) (hl : xML (xY M).cls idx (xY M2)) (hd : decode (xC M) pc = .ok (.invokestatic idx, 3)) (hR : xd M2 + 1 ≤ xd M ∧ 8 + (xL M2 + 11) + 39 * xd M2 ≤ 39 * xd M) (hn : As.length = np) (hst : st = As.reverse ++ r) (hcat : (r.map fun v => v.category).sum ≤ 8) (hz : xmc M2 = 0 ∧ xms M2 = 0)
    (kk : PW E M Q 0 0 (pc + 3) lo r h2) : PW E M Q 0 0 pc lo st h := by
  refine px_callS hm hw hi hl hd hR hn hst hcat ⟨by rw [hz.1]; exact Nat.zero_le _, by rw [hz.2]; exact Nat.zero_le _⟩ (fun v h' hq => ?_)
  obtain ⟨rfl, rfl⟩ := hq
  rw [hz.1, hz.2]
  exact kk
end PXC
