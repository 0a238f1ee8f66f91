/-! ===== constructors ===== -/
section PXI
variable {E : xE} {M : xM} {Q : Option Value → xHp → Prop} {k n pc : Nat} {lo : List (Option Value)} {r : List Value} {h : xHp}
theorem putB_push {b L : Nat} {f : Nat → Option va_E} {c : Option va_E} : va_up (putB h b L f) (b + L) c = putB h b (L + 1) (va_up f L c) := by
  funext q
  unfold putB
  by_cases hq : q = b + L
  · subst hq
    rw [va_up_self, if_pos ⟨by omega, by omega⟩, Nat.add_sub_cancel_left, va_up_self]
  · rw [va_up_ne _ _ hq]
    by_cases hr : b ≤ q ∧ q < b + L
    · rw [if_pos hr, if_pos ⟨hr.1, by omega⟩, va_up_ne _ _ (by omega)]
    · rw [if_neg hr, if_neg (by omega)]
theorem putB_app {b L L2 : Nat} {f g : Nat → Option va_E} : putB (putB h b L f) (b + L) L2 g = putB h b (L + L2) (fun o => if o < L then f o else g (o - L)) := by
  funext q
  unfold putB
  by_cases h1 : b + L ≤ q ∧ q < b + L + L2
  · rw [if_pos h1, if_pos (show b ≤ q ∧ q < b + (L + L2) by omega)]
    dsimp only
    rw [if_neg (show ¬ q - b < L by omega)]
    congr 1
    omega
  · rw [if_neg h1]
    by_cases h2 : b ≤ q ∧ q < b + L
    · rw [if_pos h2, if_pos (show b ≤ q ∧ q < b + (L + L2) by omega)]
      dsimp only
      rw [if_pos (show q - b < L by omega)]
    · rw [if_neg h2, if_neg (by omega)]
theorem putB_one {b : Nat} {c : Option va_E} : va_up h b c = putB h b 1 (fun _ => c) := by
  funext q
  unfold putB
  by_cases hq : q = b
  · subst hq
    rw [va_up_self, if_pos ⟨by omega, by omega⟩]
  · rw [va_up_ne _ _ hq, if_neg (by omega)]
theorem putB_u0 {b L : Nat} {f : Nat → Option va_E} {c : Option va_E} (hL : 0 < L) : va_up (putB h b L f) b c = putB h b L (va_up f 0 c) := putB_up (j := 0) hL
theorem px_kn {k2 n2 : Nat} (e1 : k = k2) (e2 : n = n2) (kk : PW E M Q k2 n2 pc lo r h) : PW E M Q k n pc lo r h := by
  subst e1; subst e2; exact kk
theorem px_newI {b j len : Nat} {f : Nat → Option va_E} (hd : decode (xC M) pc = .ok (.newarray .int, 2)) (hl : len ≤ 1000) (hsz : xSz E (putB h b j f) (b + j)) (hf : k + 1 ≤ xmc M ∧ n + len ≤ xms M) (kk : xSz E (putB h b (j + 1) (va_up f j (some (.inl (E.1.2 0, len, .inl (fun _ => nI 0)))))) (b + (j + 1)) → PW E M Q (k + 1) (n + len) (pc + 2) lo (.ref (b + j) :: r) (putB h b (j + 1) (va_up f j (some (.inl (E.1.2 0, len, .inl (fun _ => nI 0))))))) : PW E M Q k n pc lo (.int (nI len) :: r) (putB h b j f) := by
  refine px_newa (t0 := 0) (ty := .int) (a0 := (len, .inl (fun _ => nI 0))) hd ac_int rfl rfl (fun U u1 u2 h1 h2 => Option.some.inj (h1.symm.trans h2)) (fun cA => rfl) (Int32.not_lt.mpr (nI_pos' (by omega))) (nI_clamp (by omega)) ?_ hsz hf ?_
  · show len * 4 ≤ 536870912
    omega
  · have h3 := xSz_new (e := .inl (E.1.2 0, len, .inl (fun _ => nI 0))) hsz
    rw [putB_push] at h3
    exact px_heap putB_push (kk h3)
theorem px_newC {b j len : Nat} {f : Nat → Option va_E} (hd : decode (xC M) pc = .ok (.newarray .char, 2)) (hl : len ≤ 1000) (hsz : xSz E (putB h b j f) (b + j)) (hf : k + 1 ≤ xmc M ∧ n + len ≤ xms M) (kk : xSz E (putB h b (j + 1) (va_up f j (some (.inl (E.1.2 2, len, .inl (fun _ => nI 0)))))) (b + (j + 1)) → PW E M Q (k + 1) (n + len) (pc + 2) lo (.ref (b + j) :: r) (putB h b (j + 1) (va_up f j (some (.inl (E.1.2 2, len, .inl (fun _ => nI 0))))))) : PW E M Q k n pc lo (.int (nI len) :: r) (putB h b j f) := by
  refine px_newa (t0 := 2) (ty := .char) (a0 := (len, .inl (fun _ => nI 0))) hd ac_char rfl rfl (fun U u1 u2 h1 h2 => Option.some.inj (h1.symm.trans h2)) (fun cA => rfl) (Int32.not_lt.mpr (nI_pos' (by omega))) (nI_clamp (by omega)) ?_ hsz hf ?_
  · show len * 2 ≤ 536870912
    omega
  · have h3 := xSz_new (e := .inl (E.1.2 2, len, .inl (fun _ => nI 0))) hsz
    rw [putB_push] at h3
    exact px_heap putB_push (kk h3)
theorem px_newL {b j len : Nat} {f : Nat → Option va_E} (hd : decode (xC M) pc = .ok (.newarray .long, 2)) (hl : len ≤ 1000) (hsz : xSz E (putB h b j f) (b + j)) (hf : k + 1 ≤ xmc M ∧ n + len ≤ xms M) (kk : xSz E (putB h b (j + 1) (va_up f j (some (.inl (E.1.2 1, len, .inr (.inl (fun _ => 0))))))) (b + (j + 1)) → PW E M Q (k + 1) (n + len) (pc + 2) lo (.ref (b + j) :: r) (putB h b (j + 1) (va_up f j (some (.inl (E.1.2 1, len, .inr (.inl (fun _ => 0)))))))) : PW E M Q k n pc lo (.int (nI len) :: r) (putB h b j f) := by
  refine px_newa (t0 := 1) (ty := .long) (a0 := (len, .inr (.inl (fun _ => 0)))) hd ac_long rfl rfl (fun U u1 u2 h1 h2 => Option.some.inj (h1.symm.trans h2)) (fun cA => rfl) (Int32.not_lt.mpr (nI_pos' (by omega))) (nI_clamp (by omega)) ?_ hsz hf ?_
  · show len * 8 ≤ 536870912
    omega
  · have h3 := xSz_new (e := .inl (E.1.2 1, len, .inr (.inl (fun _ => 0)))) hsz
    rw [putB_push] at h3
    exact px_heap putB_push (kk h3)
theorem px_pF0 {ci N idx b L sz : Nat} {Cn : String} {T : u_T} {ty0 : Nat → FieldType} {fs : List Value} {v : Value} {f : Nat → Option va_E} (hk : xCl ci Cn T N ty0) (i : Nat) (hd : decode (xC M) pc = .ok (.putfield idx, 3)) (hl : Cond.fieldLink (xY M).cls idx (T i).1 (T i).2.1 (T i).2.2.1 ∈ GW) (he : f 0 = some (.inr (ci, fs))) (hL : 0 < L) (hi : i < N) (hlen : i < fs.length) (hfin : (T i).2.2.2 = true) (hin2 : (xY M).name = "<init>") (hdecl : (T i).1 = (xY M).cls) (hn : narrow (ty0 i) v = v) (hfit : fits (ty0 i) v = true) (hsz : xSz E (putB h b L f) sz) (kk : xSz E (putB h b L (va_up f 0 (some (.inr (ci, fs.set i v))))) sz → PW E M Q k n (pc + 3) lo r (putB h b L (va_up f 0 (some (.inr (ci, fs.set i v)))))) : PW E M Q k n pc lo (v :: .ref b :: r) (putB h b L f) := by
  have h0 : putB h b L f b = some (.inr (ci, fs)) := (putB_0 hL).trans he
  have h3 := xSz_put (e := .inr (ci, fs.set i v)) hsz h0
  rw [putB_u0 hL] at h3
  exact px_putF hk i hd hl h0 hi hlen hfin hin2 hdecl hn hfit (px_heap (putB_u0 hL) (kk h3))
theorem px_pP0 {ci N idx b L sz : Nat} {Cn : String} {T : u_T} {ty0 : Nat → FieldType} {fs : List Value} {v : Value} {f : Nat → Option va_E} (hk : xCl ci Cn T N ty0) (i : Nat) (hd : decode (xC M) pc = .ok (.putfield idx, 3)) (hl : Cond.fieldLink (xY M).cls idx (T i).1 (T i).2.1 (T i).2.2.1 ∈ GW) (he : f 0 = some (.inr (ci, fs))) (hL : 0 < L) (hi : i < N) (hlen : i < fs.length) (hfin : (T i).2.2.2 = false) (hn : narrow (ty0 i) v = v) (hfit : fits (ty0 i) v = true) (hsz : xSz E (putB h b L f) sz) (kk : xSz E (putB h b L (va_up f 0 (some (.inr (ci, fs.set i v))))) sz → PW E M Q k n (pc + 3) lo r (putB h b L (va_up f 0 (some (.inr (ci, fs.set i v)))))) : PW E M Q k n pc lo (v :: .ref b :: r) (putB h b L f) := by
  have h0 : putB h b L f b = some (.inr (ci, fs)) := (putB_0 hL).trans he
  have h3 := xSz_put (e := .inr (ci, fs.set i v)) hsz h0
  rw [putB_u0 hL] at h3
  exact px_put hk i hd (Or.inl hl) h0 hi hlen hfin hn hfit (px_heap (putB_u0 hL) (kk h3))
theorem px_newP {ci N idx sz : Nat} {Cn : String} {T : u_T} {ty0 : Nat → FieldType} {fs : List Value} (hk : xCl ci Cn T N ty0) (hd : decode (xC M) pc = .ok (.new idx, 3)) (hl : Cond.classLink (xY M).cls idx Cn ∈ GW) (hins : Cond.instantiable Cn N ∈ GW) (hini : Cond.initialized Cn ∈ GW) (hsz : xSz E h sz) (hfs : ∀ j, j < N → defaultValue (ty0 j) = vp_V fs j) (hf : k + 1 ≤ xmc M ∧ n + N ≤ xms M) (kk : xSz E (putB h sz 1 (fun _ => some (.inr (ci, fs)))) (sz + 1) → PW E M Q (k + 1) (n + N) (pc + 3) lo (.ref sz :: r) (putB h sz 1 (fun _ => some (.inr (ci, fs))))) : PW E M Q k n pc lo r h := by
  have h3 := xSz_new (e := .inr (ci, fs)) hsz
  rw [putB_one] at h3
  exact px_new hk hd hl hins hini hsz hfs hf (px_heap putB_one (kk h3))
theorem px_anew {idx sz len : Nat} {t0 : Nat} {C : String} {f0 : Nat → Option Nat} (hd : decode (xC M) pc = .ok (.anewarray idx, 3)) (hl : Cond.classLink (xY M).cls idx C ∈ GW) (hov : ∀ (s : State) (H : Heap), xStr E s H → va_AO C s) (ht : (xTys E)[t0]? = some (E.1.2 t0, .object C)) (hlen : len ≤ 1000) (hf0 : ∀ q, q < len → f0 q = none) (hsz : xSz E h sz) (hf : k + 1 ≤ xmc M ∧ n + len ≤ xms M) (kk : PW E M Q (k + 1) (n + len) (pc + 3) lo (.ref sz :: r) (va_up h sz (some (.inl (E.1.2 t0, len, .inr (.inr (.inr (.inr f0)))))))) : PW E M Q k n pc lo (.int (nI len) :: r) h := by
  intro l p e s m args below meth c C0 H locs ls hH hS hlv
  have hts := C0.2.2.2.2.2.2.1
  have hK := C0.2.2.2.2.2.2.2.1.1
  have hz := xSz_of hsz hH
  subst hz
  have hcl : (nI len).toNatClampNeg = len := nI_clamp (by omega)
  refine W.anew C0.1 C0.2.1 C0.2.2.2.2.2.1 (hts _ hl) (va_AO.use (hov s _ C0.2.2.2.2.2.2.2.2.1)) rfl hd rfl (Int32.not_lt.mpr (nI_pos' (by omega))) (by rw [hcl]; omega) hf.1 (by rw [hcl]; exact hf.2) fun cA kA comp f1 f2 f3 f4 => ?_
  have hcA : E.1.2 t0 = cA := by
    obtain ⟨-, k2, cm, g1, g2, g3, g4⟩ := hK.2 t0 _ ht
    exact Option.some.inj (g4.symm.trans f1)
  subst hcA
  rw [hcl]
  generalize hH1 : H.push ({ cls := E.1.2 t0, slots := Array.replicate len .null, vm := .none } : Cell) = H1
  have z1 : H1.size = H.size + 1 := by rw [← hH1, Array.size_push]
  have e1 : H1[H.size]? = some (arrV (E.1.2 t0) len (fun _ => .null)) := by rw [← hH1, Array.getElem?_push_size, ← arrV_new]
  have o1 : ∀ q : Nat, q < H.size → H1[q]? = H[q]? := fun q hq => by rw [← hH1, Array.getElem?_push, if_neg (Nat.ne_of_lt hq)]
  refine kk l p e s m args below meth c C0 H1 locs ls (xHold_new hH ?_ o1 z1) ⟨Nat.le_trans hS.1 (by omega), fun x h1 h2 => (o1 x (Nat.lt_of_lt_of_le h1 hS.1)).trans (hS.2.1 x h1 h2), hS.2.2⟩ hlv
  show H1[H.size]? = some (vp_cell _ _)
  rw [vp_cell_q, e1]
  congr 1
  exact arrV_cong (fun i hi => by rw [hf0 i hi]; rfl)
theorem px_aast {t0 a len ci N v : Nat} {C : String} {T : u_T} {f : Nat → Option Nat} {vs : List Value} {i : Nat} (hd : decode (xC M) pc = .ok (.aastore, 1)) (ha : h a = some (.inl (E.1.2 t0, len, .inr (.inr (.inr (.inr f)))))) (ht : (xTys E)[t0]? = some (E.1.2 t0, .object C)) (hv : h v = some (.inr (ci, vs))) (hc : vwCl[ci]? = some (C, T, N)) (hi : i < len) (hlen : len ≤ 1000) (kk : PW E M Q k n (pc + 1) lo r (va_up h a (some (.inl (E.1.2 t0, len, .inr (.inr (.inr (.inr (va_up f i (some v)))))))))) : PW E M Q k n pc lo (.ref v :: .int (nI i) :: .ref a :: r) h := by
  intro l p e s m args below meth c C0 H locs ls hH hS hlv
  have hK := C0.2.2.2.2.2.2.2.1.1
  have hcl : (nI i).toNatClampNeg = i := nI_clamp (by omega)
  obtain ⟨hca, hza⟩ := hH.1 a _ ha
  obtain ⟨⟨r', hr', cellV, g1, g2, g3, -⟩, -⟩ := hH.1 v _ hv
  have hcls := (hK.1 ci _ hc).2
  obtain ⟨kA, comp, k1, k2, k3, -⟩ := (hK.2 t0 _ ht).2
  have hcomp : comp = E.1.1.1 ci := Option.some.inj (k3.symm.trans hcls.1)
  subst hcomp
  obtain ⟨kC, hkC, -⟩ := hcls.2
  refine W.aast C0.1 C0.2.1 hca (fun q h => by cases h) (fun h => by cases h) k1 k2 rfl hkC ⟨Int32.not_lt.mpr (nI_pos' (by omega)), by show _ < (arrV _ _ _).slots.size; rw [arrV_size, hcl]; exact hi⟩ g1 (fun q h => by rw [g3] at h; cases h) (by rw [g2]; exact hkC) (by rw [g2]; exact va_assign hcls) rfl rfl hd fun H1 e z oq => ?_
  rw [hcl] at e ⊢
  refine kk l p _ s m args below meth c C0 H1 _ ls (xHold_put hH ha ?_ oq z) (hS.put z oq hza) hlv
  show H1[a]? = some (vp_cell _ _)
  rw [e]
  rw [vp_cell_q, vp_cell_q, arrV_store]
  congr 2
  funext q
  by_cases hq : q = i
  · subst hq
    simp [updV, va_up, va_rf]
  · simp [updV, va_up, hq]
end PXI
def T0 : xT := (fun _ _ => 0, fun j => if j = 5 then 10 else if j = 6 then 1 else 0)
def P00 : xP := (fun _ => T0, 0, 0)
def K00 : xK := (fun _ => 0, 0, 0)
def S00 : xS := (fun _ => 0, -1, 0)
def O00 : xO := ((fun _ => T0, fun _ => P00), (fun _ => S00, K00, false))

abbrev dfX0 : List Value := [.null]
theorem dfX0_ok : ∀ j, j < 1 → defaultValue (tyX0 j) = vp_V dfX0 j := fun j hj => match j, hj with
  | 0, _ => rfl
abbrev dfX1 : List Value := [.null, .int (nI 0), .int (nI 0)]
theorem dfX1_ok : ∀ j, j < 3 → defaultValue (tyX1 j) = vp_V dfX1 j := fun j hj => match j, hj with
  | 0, _ => rfl
  | 1, _ => rfl
  | 2, _ => rfl
abbrev dfX2 : List Value := [.null, .int (nI 0), .int (nI 0)]
theorem dfX2_ok : ∀ j, j < 3 → defaultValue (tyX2 j) = vp_V dfX2 j := fun j hj => match j, hj with
  | 0, _ => rfl
  | 1, _ => rfl
  | 2, _ => rfl
abbrev dfX3 : List Value := [.null, .int (nI 0), .int (nI 0)]
theorem dfX3_ok : ∀ j, j < 3 → defaultValue (tyX3 j) = vp_V dfX3 j := fun j hj => match j, hj with
  | 0, _ => rfl
  | 1, _ => rfl
  | 2, _ => rfl
abbrev dfX4 : List Value := [.null, .null, .null, .null, .null, .null, .int (nI 0), .int (nI 0), .int (nI 0), .int (nI 0), .int (nI 0), .int (nI 0), .int (nI 0)]
theorem dfX4_ok : ∀ j, j < 13 → defaultValue (tyX4 j) = vp_V dfX4 j := fun j hj => match j, hj with
  | 0, _ => rfl
  | 1, _ => rfl
  | 2, _ => rfl
  | 3, _ => rfl
  | 4, _ => rfl
  | 5, _ => rfl
  | 6, _ => rfl
  | 7, _ => rfl
  | 8, _ => rfl
  | 9, _ => rfl
  | 10, _ => rfl
  | 11, _ => rfl
  | 12, _ => rfl
abbrev dfX5 : List Value := [.null, .null, .null, .null, .int (nI 0), .null, .null, .null, .null]
theorem dfX5_ok : ∀ j, j < 9 → defaultValue (tyX5 j) = vp_V dfX5 j := fun j hj => match j, hj with
  | 0, _ => rfl
  | 1, _ => rfl
  | 2, _ => rfl
  | 3, _ => rfl
  | 4, _ => rfl
  | 5, _ => rfl
  | 6, _ => rfl
  | 7, _ => rfl
  | 8, _ => rfl
abbrev dfX6 : List Value := [.null, .null, .null, .int (nI 0), .null, .int (nI 0), .int (nI 0), .null, .null, .null, .null, .int (nI 0), .null]
theorem dfX6_ok : ∀ j, j < 13 → defaultValue (tyX6 j) = vp_V dfX6 j := fun j hj => match j, hj with
  | 0, _ => rfl
  | 1, _ => rfl
  | 2, _ => rfl
  | 3, _ => rfl
  | 4, _ => rfl
  | 5, _ => rfl
  | 6, _ => rfl
  | 7, _ => rfl
  | 8, _ => rfl
  | 9, _ => rfl
  | 10, _ => rfl
  | 11, _ => rfl
  | 12, _ => rfl
theorem xSz_B {E : xE} {h : xHp} {b L L2 : Nat} {f g : Nat → Option va_E} (hs : xSz E (putB h b L f) (b + L)) (hL : L = L2) (hf : ∀ o, o < L → f o = g o) : xSz E (putB h b L2 g) (b + L2) := by
  subst hL
  rw [← putB_congr hf]
  exact hs
set_option maxHeartbeats 4000000 in
set_option maxRecDepth 100000 in
theorem c_X4_init {E : xE} {h : xHp} {b : Nat} (hs0 : xSz E (putB h b 1 (fun _ => some (.inr (4, dfX4)))) (b + 1)) : PMet E mX4_init [.ref b] (putB h b 1 (fun _ => some (.inr (4, dfX4)))) (fun v h' => v = none ∧ h' = TH E h b T0 ∧ xSz E h' (b + 7)) := by
  refine pm_of [some (.ref b)] (by decide +kernel) (Nat.le_of_ble_eq_true rfl) rfl ?_
  refine px_aload_n dX4_init_0 rfl ?_
  refine px_objInit dX4_init_1 ml_X4_3 wm_objectInit wc_objectInit (Nat.le_of_ble_eq_true rfl) (Nat.le_of_ble_eq_true rfl) ?_
  refine px_aload_n dX4_init_4 rfl ?_
  refine px_bipush (v := nI 6) dX4_init_5 (by decide) ?_
  refine px_newI dX4_init_7 (by decide) hs0 ⟨Nat.le_of_ble_eq_true rfl, Nat.le_of_ble_eq_true rfl⟩ (fun hs1 => ?_)
  refine px_pF0 xk_X4 0 dX4_init_9 fl_X4_9 rfl (by decide) (by decide) (by show 0 < 13; decide) rfl rfl rfl rfl rfl hs1 (fun hs2 => ?_)
  refine px_aload_n dX4_init_12 rfl ?_
  refine px_bipush (v := nI 6) dX4_init_13 (by decide) ?_
  refine px_newI dX4_init_15 (by decide) hs2 ⟨Nat.le_of_ble_eq_true rfl, Nat.le_of_ble_eq_true rfl⟩ (fun hs3 => ?_)
  refine px_pF0 xk_X4 1 dX4_init_17 fl_X4_15 rfl (by decide) (by decide) (by show 1 < 13; decide) rfl rfl rfl rfl rfl hs3 (fun hs4 => ?_)
  refine px_aload_n dX4_init_20 rfl ?_
  refine px_bipush (v := nI 6) dX4_init_21 (by decide) ?_
  refine px_newI dX4_init_23 (by decide) hs4 ⟨Nat.le_of_ble_eq_true rfl, Nat.le_of_ble_eq_true rfl⟩ (fun hs5 => ?_)
  refine px_pF0 xk_X4 2 dX4_init_25 fl_X4_18 rfl (by decide) (by decide) (by show 2 < 13; decide) rfl rfl rfl rfl rfl hs5 (fun hs6 => ?_)
  refine px_aload_n dX4_init_28 rfl ?_
  refine px_bipush (v := nI 6) dX4_init_29 (by decide) ?_
  refine px_newI dX4_init_31 (by decide) hs6 ⟨Nat.le_of_ble_eq_true rfl, Nat.le_of_ble_eq_true rfl⟩ (fun hs7 => ?_)
  refine px_pF0 xk_X4 3 dX4_init_33 fl_X4_21 rfl (by decide) (by decide) (by show 3 < 13; decide) rfl rfl rfl rfl rfl hs7 (fun hs8 => ?_)
  refine px_aload_n dX4_init_36 rfl ?_
  refine px_iconst (v := nI 4) dX4_init_37 (by decide) ?_
  refine px_newI dX4_init_38 (by decide) hs8 ⟨Nat.le_of_ble_eq_true rfl, Nat.le_of_ble_eq_true rfl⟩ (fun hs9 => ?_)
  refine px_pF0 xk_X4 4 dX4_init_40 fl_X4_24 rfl (by decide) (by decide) (by show 4 < 13; decide) rfl rfl rfl rfl rfl hs9 (fun hs10 => ?_)
  refine px_aload_n dX4_init_43 rfl ?_
  refine px_iconst (v := nI 4) dX4_init_44 (by decide) ?_
  refine px_newI dX4_init_45 (by decide) hs10 ⟨Nat.le_of_ble_eq_true rfl, Nat.le_of_ble_eq_true rfl⟩ (fun hs11 => ?_)
  refine px_pF0 xk_X4 5 dX4_init_47 fl_X4_27 rfl (by decide) (by decide) (by show 5 < 13; decide) rfl rfl rfl rfl rfl hs11 (fun hs12 => ?_)
  refine px_aload_n dX4_init_50 rfl ?_
  refine px_bipush (v := nI 10) dX4_init_51 (by decide) ?_
  refine px_pP0 xk_X4 11 dX4_init_53 fl_X4_30 rfl (by decide) (by decide) (by show 11 < 13; decide) rfl rfl rfl hs12 (fun hs13 => ?_)
  refine px_aload_n dX4_init_56 rfl ?_
  refine px_iconst (v := nI 1) dX4_init_57 (by decide) ?_
  refine px_pP0 xk_X4 12 dX4_init_58 fl_X4_34 rfl (by decide) (by decide) (by show 12 < 13; decide) rfl rfl rfl hs13 (fun hs14 => ?_)
  refine px_heap (h2 := TH E h b T0) (putB_congr (fun o ho => match o, ho with | 0, _ => rfl | 1, _ => rfl | 2, _ => rfl | 3, _ => rfl | 4, _ => rfl | 5, _ => rfl | 6, _ => rfl)) ?_
  exact px_vret dX4_init_61 rfl rfl rfl ⟨rfl, rfl, xSz_B hs14 rfl (fun o ho => match o, ho with | 0, _ => rfl | 1, _ => rfl | 2, _ => rfl | 3, _ => rfl | 4, _ => rfl | 5, _ => rfl | 6, _ => rfl)⟩
set_option maxHeartbeats 4000000 in
set_option maxRecDepth 100000 in
theorem c_X3_init {E : xE} {h : xHp} {b : Nat} (hs0 : xSz E (putB h b 1 (fun _ => some (.inr (3, dfX3)))) (b + 1)) : PMet E mX3_init [.ref b] (putB h b 1 (fun _ => some (.inr (3, dfX3)))) (fun v h' => v = none ∧ h' = KH E h b K00 ∧ xSz E h' (b + 2)) := by
  refine pm_of [some (.ref b)] (by decide +kernel) (Nat.le_of_ble_eq_true rfl) rfl ?_
  refine px_aload_n dX3_init_0 rfl ?_
  refine px_objInit dX3_init_1 ml_X3_3 wm_objectInit wc_objectInit (Nat.le_of_ble_eq_true rfl) (Nat.le_of_ble_eq_true rfl) ?_
  refine px_aload_n dX3_init_4 rfl ?_
  refine px_bipush (v := nI 80) dX3_init_5 (by decide) ?_
  refine px_newC dX3_init_7 (by decide) hs0 ⟨Nat.le_of_ble_eq_true rfl, Nat.le_of_ble_eq_true rfl⟩ (fun hs1 => ?_)
  refine px_pF0 xk_X3 0 dX3_init_9 fl_X3_9 rfl (by decide) (by decide) (by show 0 < 3; decide) rfl rfl rfl rfl rfl hs1 (fun hs2 => ?_)
  refine px_heap (h2 := KH E h b K00) (putB_congr (fun o ho => match o, ho with | 0, _ => rfl | 1, _ => rfl)) ?_
  exact px_vret dX3_init_12 rfl rfl rfl ⟨rfl, rfl, xSz_B hs2 rfl (fun o ho => match o, ho with | 0, _ => rfl | 1, _ => rfl)⟩
set_option maxHeartbeats 4000000 in
set_option maxRecDepth 100000 in
theorem c_X2_init {E : xE} {h : xHp} {b : Nat} (hs0 : xSz E (putB h b 1 (fun _ => some (.inr (2, dfX2)))) (b + 1)) : PMet E mX2_init [.ref b] (putB h b 1 (fun _ => some (.inr (2, dfX2)))) (fun v h' => v = none ∧ h' = SH E h b S00 ∧ xSz E h' (b + 2)) := by
  refine pm_of [some (.ref b)] (by decide +kernel) (Nat.le_of_ble_eq_true rfl) rfl ?_
  refine px_aload_n dX2_init_0 rfl ?_
  refine px_objInit dX2_init_1 ml_X2_3 wm_objectInit wc_objectInit (Nat.le_of_ble_eq_true rfl) (Nat.le_of_ble_eq_true rfl) ?_
  refine px_aload_n dX2_init_4 rfl ?_
  refine px_bipush (v := nI 24) dX2_init_5 (by decide) ?_
  refine px_newL dX2_init_7 (by decide) hs0 ⟨Nat.le_of_ble_eq_true rfl, Nat.le_of_ble_eq_true rfl⟩ (fun hs1 => ?_)
  refine px_pF0 xk_X2 0 dX2_init_9 fl_X2_9 rfl (by decide) (by decide) (by show 0 < 3; decide) rfl rfl rfl rfl rfl hs1 (fun hs2 => ?_)
  refine px_aload_n dX2_init_12 rfl ?_
  refine px_iconst (v := -1) dX2_init_13 (by decide) ?_
  refine px_pP0 xk_X2 1 dX2_init_14 fl_X2_15 rfl (by decide) (by decide) (by show 1 < 3; decide) rfl rfl rfl hs2 (fun hs3 => ?_)
  refine px_heap (h2 := SH E h b S00) (putB_congr (fun o ho => match o, ho with | 0, _ => rfl | 1, _ => rfl)) ?_
  exact px_vret dX2_init_17 rfl rfl rfl ⟨rfl, rfl, xSz_B hs3 rfl (fun o ho => match o, ho with | 0, _ => rfl | 1, _ => rfl)⟩
def foC (E : xE) (b : Nat) (o : Nat) : Option va_E := if o = 0 then some (.inr (0, [.ref (b + 1)])) else twC E (b + 1) T0 (o - 1)
set_option maxHeartbeats 4000000 in
set_option maxRecDepth 100000 in
theorem c_X0_init {E : xE} {h : xHp} {b : Nat} (hs0 : xSz E (putB h b 1 (fun _ => some (.inr (0, dfX0)))) (b + 1)) : PMet E mX0_init [.ref b] (putB h b 1 (fun _ => some (.inr (0, dfX0)))) (fun v h' => v = none ∧ h' = putB h b 8 (foC E b) ∧ xSz E h' (b + 8)) := by
  refine pm_of [some (.ref b)] (by decide +kernel) (Nat.le_of_ble_eq_true rfl) rfl ?_
  refine px_aload_n dX0_init_0 rfl ?_
  refine px_objInit dX0_init_1 ml_X0_3 wm_objectInit wc_objectInit (Nat.le_of_ble_eq_true rfl) (Nat.le_of_ble_eq_true rfl) ?_
  refine px_aload_n dX0_init_4 rfl ?_
  refine px_newP (fs := dfX4) xk_X4 dX0_init_5 cl_X0_9 in_X4 wi_RobbedOnce_Town hs0 dfX4_ok ⟨Nat.le_of_ble_eq_true rfl, Nat.le_of_ble_eq_true rfl⟩ (fun hs1 => ?_)
  refine px_dup dX0_init_8 rfl ?_
  refine px_callI (M2 := mX4_init) (c_X4_init hs1) mw_X4_init wm_X4_init rfl rfl (Or.inr ⟨_, ml_X0_11⟩) dX0_init_9 (by decide) rfl rfl (Nat.le_of_ble_eq_true rfl) ⟨Nat.le_of_ble_eq_true rfl, Nat.le_of_ble_eq_true rfl⟩ (fun v h2 hq => ?_)
  obtain ⟨rfl, rfl, hs1⟩ := hq
  have e1 : TH E (putB h b 1 (fun _ => some (.inr (0, dfX0)))) (b + 1) T0 = _ := putB_app
  rw [show TH E (putB h b 1 (fun _ => some (.inr (0, dfX0)))) (b + 1) T0 = putB (putB h b 1 (fun _ => some (.inr (0, dfX0)))) (b + 1) 7 (twC E (b + 1) T0) from rfl, putB_app] at hs1
  refine px_heap e1 ?_
  refine px_pF0 xk_X0 0 dX0_init_12 fl_X0_12 rfl (by decide) (by decide) (by show 0 < 1; decide) rfl rfl rfl rfl rfl hs1 (fun hs2 => ?_)
  refine px_heap (h2 := putB h b 8 (foC E b)) (putB_congr (fun o ho => match o, ho with | 0, _ => rfl | 1, _ => rfl | 2, _ => rfl | 3, _ => rfl | 4, _ => rfl | 5, _ => rfl | 6, _ => rfl | 7, _ => rfl)) ?_
  exact px_vret dX0_init_15 rfl rfl rfl ⟨rfl, rfl, xSz_B hs2 rfl (fun o ho => match o, ho with | 0, _ => rfl | 1, _ => rfl | 2, _ => rfl | 3, _ => rfl | 4, _ => rfl | 5, _ => rfl | 6, _ => rfl | 7, _ => rfl)⟩
