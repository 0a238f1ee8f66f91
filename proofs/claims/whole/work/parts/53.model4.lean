def dcl (nt : Nat) : Nat := if nt % 2 = 1 then 2 else 0
def dgr (kd d : Nat) (sh : Bool) (nt : Nat) : Nat := min 99 (d + (if kd = 1 then 4 else if kd = 2 then dcl nt else if kd = 3 then (if sh then 7 else 4) else if kd = 4 then min (dcl nt) (6 - d) else 2))
theorem dgr_t (T : xT) (a : Nat) : dgr (T.1 0 a) (T.1 2 a) ((T.2 2).testBit a) (T.2 4) = min 99 (T.1 2 a + tgrow T a) := rfl
theorem dgr_le (kd d : Nat) (sh : Bool) (nt : Nat) : dgr kd d sh nt ≤ 99 := Nat.min_le_left _ _
set_option maxHeartbeats 4000000 in
set_option maxRecDepth 100000 in
theorem c_X6_dearerBy {E : xE} {h : xHp} (kd d : Nat) (sh : Bool) (nt : Nat) (hk : kd ≤ 4) (hd : d ≤ 99) (hn : nt < 2 ^ 31) : PMI E mX6_dearerBy [.int (nI kd), .int (nI d), .int (bI sh), .int (nI nt)] h (nI (dgr kd d sh nt)) h := by
  refine pm_of [some (.int (nI kd)), some (.int (nI d)), some (.int (bI sh)), some (.int (nI nt)), none] (by decide +kernel) (Nat.le_of_ble_eq_true rfl) rfl ?_
  refine px_iload_n dX6_dearerBy_0 rfl ?_
  refine px_ist_4 dX6_dearerBy_1 (by decide) rfl ?_
  refine px_iload_n dX6_dearerBy_3 rfl ?_
  have hkk : kd = 0 ∨ kd = 1 ∨ kd = 2 ∨ kd = 3 ∨ kd = 4 := by omega
  rcases hkk with h0 | h0 | h0 | h0 | h0
  · subst h0
    refine px_tabIn 36 dX6_dearerBy_4 (by decide) (by decide) rfl (by decide) ?_
    refine px_iload_n dX6_dearerBy_36 rfl ?_
    refine px_iconst (v := nI 2) dX6_dearerBy_37 (by decide) ?_
    refine px_iaddN dX6_dearerBy_38 ?_
    refine px_ist_4 dX6_dearerBy_39 (by decide) rfl ?_
    refine px_goto 86 dX6_dearerBy_41 (by decide) ?_
    refine px_iload_n dX6_dearerBy_86 rfl ?_
    refine px_iconst (v := nI 4) dX6_dearerBy_87 (by decide) ?_
    refine px_icmp_ne 117 dX6_dearerBy_88 (by decide) (fun _ => ?_) (fun z => absurd z (by decide))
    refine px_iload dX6_dearerBy_117 rfl ?_
    refine px_bipush (v := nI 99) dX6_dearerBy_119 (by decide) ?_
    refine px_icmp_leN 129 dX6_dearerBy_121 (by decide) (by omega) (by omega) (fun c121 => ?_) (fun c121 => ?_)
    · refine px_iload dX6_dearerBy_129 rfl ?_
      refine px_iret dX6_dearerBy_131 rfl rfl rfl ⟨congrArg (fun x => some (Value.int (nI x))) ?_, rfl⟩
      simp only [dgr]
      first | omega | (simp; omega) | (simp; done)
    · refine px_bipush (v := nI 99) dX6_dearerBy_124 (by decide) ?_
      refine px_goto 131 dX6_dearerBy_126 (by decide) ?_
      refine px_iret dX6_dearerBy_131 rfl rfl rfl ⟨congrArg (fun x => some (Value.int (nI x))) ?_, rfl⟩
      simp only [dgr]
      first | omega | (simp; omega) | (simp; done)
  · subst h0
    refine px_tabIn 44 dX6_dearerBy_4 (by decide) (by decide) rfl (by decide) ?_
    refine px_iload_n dX6_dearerBy_44 rfl ?_
    refine px_iconst (v := nI 4) dX6_dearerBy_45 (by decide) ?_
    refine px_iaddN dX6_dearerBy_46 ?_
    refine px_ist_4 dX6_dearerBy_47 (by decide) rfl ?_
    refine px_goto 86 dX6_dearerBy_49 (by decide) ?_
    refine px_iload_n dX6_dearerBy_86 rfl ?_
    refine px_iconst (v := nI 4) dX6_dearerBy_87 (by decide) ?_
    refine px_icmp_ne 117 dX6_dearerBy_88 (by decide) (fun _ => ?_) (fun z => absurd z (by decide))
    refine px_iload dX6_dearerBy_117 rfl ?_
    refine px_bipush (v := nI 99) dX6_dearerBy_119 (by decide) ?_
    refine px_icmp_leN 129 dX6_dearerBy_121 (by decide) (by omega) (by omega) (fun c121 => ?_) (fun c121 => ?_)
    · refine px_iload dX6_dearerBy_129 rfl ?_
      refine px_iret dX6_dearerBy_131 rfl rfl rfl ⟨congrArg (fun x => some (Value.int (nI x))) ?_, rfl⟩
      simp only [dgr]
      first | omega | (simp; omega) | (simp; done)
    · refine px_bipush (v := nI 99) dX6_dearerBy_124 (by decide) ?_
      refine px_goto 131 dX6_dearerBy_126 (by decide) ?_
      refine px_iret dX6_dearerBy_131 rfl rfl rfl ⟨congrArg (fun x => some (Value.int (nI x))) ?_, rfl⟩
      simp only [dgr]
      first | omega | (simp; omega) | (simp; done)
  · subst h0
    refine px_tabIn 70 dX6_dearerBy_4 (by decide) (by decide) rfl (by decide) ?_
    refine px_iload_n dX6_dearerBy_70 rfl ?_
    refine px_iload_n dX6_dearerBy_71 rfl ?_
    refine px_iconst (v := nI 2) dX6_dearerBy_72 (by decide) ?_
    refine px_iremN dX6_dearerBy_73 (by omega) (by omega) (by omega) ?_
    refine px_iconst (v := nI 1) dX6_dearerBy_74 (by decide) ?_
    refine px_icmp_neN 82 dX6_dearerBy_75 (by decide) (by omega) (by omega) (fun c75 => ?_) (fun c75 => ?_)
    · refine px_iconst (v := nI 0) dX6_dearerBy_82 (by decide) ?_
      refine px_iaddN dX6_dearerBy_83 ?_
      refine px_ist_4 dX6_dearerBy_84 (by decide) rfl ?_
      refine px_iload_n dX6_dearerBy_86 rfl ?_
      refine px_iconst (v := nI 4) dX6_dearerBy_87 (by decide) ?_
      refine px_icmp_ne 117 dX6_dearerBy_88 (by decide) (fun _ => ?_) (fun z => absurd z (by decide))
      refine px_iload dX6_dearerBy_117 rfl ?_
      refine px_bipush (v := nI 99) dX6_dearerBy_119 (by decide) ?_
      refine px_icmp_leN 129 dX6_dearerBy_121 (by decide) (by omega) (by omega) (fun c121 => ?_) (fun c121 => ?_)
      · refine px_iload dX6_dearerBy_129 rfl ?_
        refine px_iret dX6_dearerBy_131 rfl rfl rfl ⟨congrArg (fun x => some (Value.int (nI x))) ?_, rfl⟩
        have hcl : dcl nt = 0 := if_neg c75
        simp only [dgr, hcl]
        first | omega | (simp; omega) | (simp; done)
      · refine px_bipush (v := nI 99) dX6_dearerBy_124 (by decide) ?_
        refine px_goto 131 dX6_dearerBy_126 (by decide) ?_
        refine px_iret dX6_dearerBy_131 rfl rfl rfl ⟨congrArg (fun x => some (Value.int (nI x))) ?_, rfl⟩
        have hcl : dcl nt = 0 := if_neg c75
        simp only [dgr, hcl]
        first | omega | (simp; omega) | (simp; done)
    · refine px_iconst (v := nI 2) dX6_dearerBy_78 (by decide) ?_
      refine px_goto 83 dX6_dearerBy_79 (by decide) ?_
      refine px_iaddN dX6_dearerBy_83 ?_
      refine px_ist_4 dX6_dearerBy_84 (by decide) rfl ?_
      refine px_iload_n dX6_dearerBy_86 rfl ?_
      refine px_iconst (v := nI 4) dX6_dearerBy_87 (by decide) ?_
      refine px_icmp_ne 117 dX6_dearerBy_88 (by decide) (fun _ => ?_) (fun z => absurd z (by decide))
      refine px_iload dX6_dearerBy_117 rfl ?_
      refine px_bipush (v := nI 99) dX6_dearerBy_119 (by decide) ?_
      refine px_icmp_leN 129 dX6_dearerBy_121 (by decide) (by omega) (by omega) (fun c121 => ?_) (fun c121 => ?_)
      · refine px_iload dX6_dearerBy_129 rfl ?_
        refine px_iret dX6_dearerBy_131 rfl rfl rfl ⟨congrArg (fun x => some (Value.int (nI x))) ?_, rfl⟩
        have hcl : dcl nt = 2 := if_pos c75
        simp only [dgr, hcl]
        first | omega | (simp; omega) | (simp; done)
      · refine px_bipush (v := nI 99) dX6_dearerBy_124 (by decide) ?_
        refine px_goto 131 dX6_dearerBy_126 (by decide) ?_
        refine px_iret dX6_dearerBy_131 rfl rfl rfl ⟨congrArg (fun x => some (Value.int (nI x))) ?_, rfl⟩
        have hcl : dcl nt = 2 := if_pos c75
        simp only [dgr, hcl]
        first | omega | (simp; omega) | (simp; done)
  · subst h0
    refine px_tabIn 52 dX6_dearerBy_4 (by decide) (by decide) rfl (by decide) ?_
    refine px_iload_n dX6_dearerBy_52 rfl ?_
    refine px_iconst (v := nI 4) dX6_dearerBy_53 (by decide) ?_
    refine px_iaddN dX6_dearerBy_54 ?_
    refine px_iload_n dX6_dearerBy_55 rfl ?_
    refine px_if_eqB 63 dX6_dearerBy_56 (by decide) (fun c56 => ?_) (fun c56 => ?_)
    · refine px_iconst (v := nI 0) dX6_dearerBy_63 (by decide) ?_
      refine px_iaddN dX6_dearerBy_64 ?_
      refine px_ist_4 dX6_dearerBy_65 (by decide) rfl ?_
      refine px_goto 86 dX6_dearerBy_67 (by decide) ?_
      refine px_iload_n dX6_dearerBy_86 rfl ?_
      refine px_iconst (v := nI 4) dX6_dearerBy_87 (by decide) ?_
      refine px_icmp_ne 117 dX6_dearerBy_88 (by decide) (fun _ => ?_) (fun z => absurd z (by decide))
      refine px_iload dX6_dearerBy_117 rfl ?_
      refine px_bipush (v := nI 99) dX6_dearerBy_119 (by decide) ?_
      refine px_icmp_leN 129 dX6_dearerBy_121 (by decide) (by omega) (by omega) (fun c121 => ?_) (fun c121 => ?_)
      · refine px_iload dX6_dearerBy_129 rfl ?_
        refine px_iret dX6_dearerBy_131 rfl rfl rfl ⟨congrArg (fun x => some (Value.int (nI x))) ?_, rfl⟩
        simp only [dgr, c56]
        first | omega | (simp; omega) | (simp; done)
      · refine px_bipush (v := nI 99) dX6_dearerBy_124 (by decide) ?_
        refine px_goto 131 dX6_dearerBy_126 (by decide) ?_
        refine px_iret dX6_dearerBy_131 rfl rfl rfl ⟨congrArg (fun x => some (Value.int (nI x))) ?_, rfl⟩
        simp only [dgr, c56]
        first | omega | (simp; omega) | (simp; done)
    · refine px_iconst (v := nI 3) dX6_dearerBy_59 (by decide) ?_
      refine px_goto 64 dX6_dearerBy_60 (by decide) ?_
      refine px_iaddN dX6_dearerBy_64 ?_
      refine px_ist_4 dX6_dearerBy_65 (by decide) rfl ?_
      refine px_goto 86 dX6_dearerBy_67 (by decide) ?_
      refine px_iload_n dX6_dearerBy_86 rfl ?_
      refine px_iconst (v := nI 4) dX6_dearerBy_87 (by decide) ?_
      refine px_icmp_ne 117 dX6_dearerBy_88 (by decide) (fun _ => ?_) (fun z => absurd z (by decide))
      refine px_iload dX6_dearerBy_117 rfl ?_
      refine px_bipush (v := nI 99) dX6_dearerBy_119 (by decide) ?_
      refine px_icmp_leN 129 dX6_dearerBy_121 (by decide) (by omega) (by omega) (fun c121 => ?_) (fun c121 => ?_)
      · refine px_iload dX6_dearerBy_129 rfl ?_
        refine px_iret dX6_dearerBy_131 rfl rfl rfl ⟨congrArg (fun x => some (Value.int (nI x))) ?_, rfl⟩
        simp only [dgr, c56]
        first | omega | (simp; omega) | (simp; done)
      · refine px_bipush (v := nI 99) dX6_dearerBy_124 (by decide) ?_
        refine px_goto 131 dX6_dearerBy_126 (by decide) ?_
        refine px_iret dX6_dearerBy_131 rfl rfl rfl ⟨congrArg (fun x => some (Value.int (nI x))) ?_, rfl⟩
        simp only [dgr, c56]
        first | omega | (simp; omega) | (simp; done)
  · subst h0
    refine px_tabOut 70 dX6_dearerBy_4 (by decide) (by decide) ?_
    refine px_iload_n dX6_dearerBy_70 rfl ?_
    refine px_iload_n dX6_dearerBy_71 rfl ?_
    refine px_iconst (v := nI 2) dX6_dearerBy_72 (by decide) ?_
    refine px_iremN dX6_dearerBy_73 (by omega) (by omega) (by omega) ?_
    refine px_iconst (v := nI 1) dX6_dearerBy_74 (by decide) ?_
    refine px_icmp_neN 82 dX6_dearerBy_75 (by decide) (by omega) (by omega) (fun c75 => ?_) (fun c75 => ?_)
    · refine px_iconst (v := nI 0) dX6_dearerBy_82 (by decide) ?_
      refine px_iaddN dX6_dearerBy_83 ?_
      refine px_ist_4 dX6_dearerBy_84 (by decide) rfl ?_
      refine px_iload_n dX6_dearerBy_86 rfl ?_
      refine px_iconst (v := nI 4) dX6_dearerBy_87 (by decide) ?_
      refine px_icmp_ne 117 dX6_dearerBy_88 (by decide) (fun z => absurd z (by decide)) (fun _ => ?_)
      refine px_iload_n dX6_dearerBy_91 rfl ?_
      refine px_bipush (v := nI 6) dX6_dearerBy_92 (by decide) ?_
      refine px_icmp_ltN 101 dX6_dearerBy_94 (by decide) (by omega) (by omega) (fun c94 => ?_) (fun c94 => ?_)
      · refine px_iload dX6_dearerBy_101 rfl ?_
        refine px_bipush (v := nI 6) dX6_dearerBy_103 (by decide) ?_
        refine px_icmp_leN 113 dX6_dearerBy_105 (by decide) (by omega) (by omega) (fun c105 => ?_) (fun c105 => ?_)
        · refine px_iload dX6_dearerBy_113 rfl ?_
          refine px_ist_4 dX6_dearerBy_115 (by decide) rfl ?_
          refine px_iload dX6_dearerBy_117 rfl ?_
          refine px_bipush (v := nI 99) dX6_dearerBy_119 (by decide) ?_
          refine px_icmp_leN 129 dX6_dearerBy_121 (by decide) (by omega) (by omega) (fun c121 => ?_) (fun c121 => ?_)
          · refine px_iload dX6_dearerBy_129 rfl ?_
            refine px_iret dX6_dearerBy_131 rfl rfl rfl ⟨congrArg (fun x => some (Value.int (nI x))) ?_, rfl⟩
            have hcl : dcl nt = 0 := if_neg c75
            simp only [dgr, hcl]
            first | omega | (simp; omega) | (simp; done)
          · refine px_bipush (v := nI 99) dX6_dearerBy_124 (by decide) ?_
            refine px_goto 131 dX6_dearerBy_126 (by decide) ?_
            refine px_iret dX6_dearerBy_131 rfl rfl rfl ⟨congrArg (fun x => some (Value.int (nI x))) ?_, rfl⟩
            have hcl : dcl nt = 0 := if_neg c75
            simp only [dgr, hcl]
            first | omega | (simp; omega) | (simp; done)
        · refine px_bipush (v := nI 6) dX6_dearerBy_108 (by decide) ?_
          refine px_goto 115 dX6_dearerBy_110 (by decide) ?_
          refine px_ist_4 dX6_dearerBy_115 (by decide) rfl ?_
          refine px_iload dX6_dearerBy_117 rfl ?_
          refine px_bipush (v := nI 99) dX6_dearerBy_119 (by decide) ?_
          refine px_icmp_le 129 dX6_dearerBy_121 (by decide) (fun _ => ?_) (fun z => absurd z (by decide))
          refine px_iload dX6_dearerBy_129 rfl ?_
          refine px_iret dX6_dearerBy_131 rfl rfl rfl ⟨congrArg (fun x => some (Value.int (nI x))) ?_, rfl⟩
          have hcl : dcl nt = 0 := if_neg c75
          simp only [dgr, hcl]
          first | omega | (simp; omega) | (simp; done)
      · refine px_iload_n dX6_dearerBy_97 rfl ?_
        refine px_goto 115 dX6_dearerBy_98 (by decide) ?_
        refine px_ist_4 dX6_dearerBy_115 (by decide) rfl ?_
        refine px_iload dX6_dearerBy_117 rfl ?_
        refine px_bipush (v := nI 99) dX6_dearerBy_119 (by decide) ?_
        refine px_icmp_leN 129 dX6_dearerBy_121 (by decide) (by omega) (by omega) (fun c121 => ?_) (fun c121 => ?_)
        · refine px_iload dX6_dearerBy_129 rfl ?_
          refine px_iret dX6_dearerBy_131 rfl rfl rfl ⟨congrArg (fun x => some (Value.int (nI x))) ?_, rfl⟩
          have hcl : dcl nt = 0 := if_neg c75
          simp only [dgr, hcl]
          first | omega | (simp; omega) | (simp; done)
        · refine px_bipush (v := nI 99) dX6_dearerBy_124 (by decide) ?_
          refine px_goto 131 dX6_dearerBy_126 (by decide) ?_
          refine px_iret dX6_dearerBy_131 rfl rfl rfl ⟨congrArg (fun x => some (Value.int (nI x))) ?_, rfl⟩
          have hcl : dcl nt = 0 := if_neg c75
          simp only [dgr, hcl]
          first | omega | (simp; omega) | (simp; done)
    · refine px_iconst (v := nI 2) dX6_dearerBy_78 (by decide) ?_
      refine px_goto 83 dX6_dearerBy_79 (by decide) ?_
      refine px_iaddN dX6_dearerBy_83 ?_
      refine px_ist_4 dX6_dearerBy_84 (by decide) rfl ?_
      refine px_iload_n dX6_dearerBy_86 rfl ?_
      refine px_iconst (v := nI 4) dX6_dearerBy_87 (by decide) ?_
      refine px_icmp_ne 117 dX6_dearerBy_88 (by decide) (fun z => absurd z (by decide)) (fun _ => ?_)
      refine px_iload_n dX6_dearerBy_91 rfl ?_
      refine px_bipush (v := nI 6) dX6_dearerBy_92 (by decide) ?_
      refine px_icmp_ltN 101 dX6_dearerBy_94 (by decide) (by omega) (by omega) (fun c94 => ?_) (fun c94 => ?_)
      · refine px_iload dX6_dearerBy_101 rfl ?_
        refine px_bipush (v := nI 6) dX6_dearerBy_103 (by decide) ?_
        refine px_icmp_leN 113 dX6_dearerBy_105 (by decide) (by omega) (by omega) (fun c105 => ?_) (fun c105 => ?_)
        · refine px_iload dX6_dearerBy_113 rfl ?_
          refine px_ist_4 dX6_dearerBy_115 (by decide) rfl ?_
          refine px_iload dX6_dearerBy_117 rfl ?_
          refine px_bipush (v := nI 99) dX6_dearerBy_119 (by decide) ?_
          refine px_icmp_leN 129 dX6_dearerBy_121 (by decide) (by omega) (by omega) (fun c121 => ?_) (fun c121 => ?_)
          · refine px_iload dX6_dearerBy_129 rfl ?_
            refine px_iret dX6_dearerBy_131 rfl rfl rfl ⟨congrArg (fun x => some (Value.int (nI x))) ?_, rfl⟩
            have hcl : dcl nt = 2 := if_pos c75
            simp only [dgr, hcl]
            first | omega | (simp; omega) | (simp; done)
          · refine px_bipush (v := nI 99) dX6_dearerBy_124 (by decide) ?_
            refine px_goto 131 dX6_dearerBy_126 (by decide) ?_
            refine px_iret dX6_dearerBy_131 rfl rfl rfl ⟨congrArg (fun x => some (Value.int (nI x))) ?_, rfl⟩
            have hcl : dcl nt = 2 := if_pos c75
            simp only [dgr, hcl]
            first | omega | (simp; omega) | (simp; done)
        · refine px_bipush (v := nI 6) dX6_dearerBy_108 (by decide) ?_
          refine px_goto 115 dX6_dearerBy_110 (by decide) ?_
          refine px_ist_4 dX6_dearerBy_115 (by decide) rfl ?_
          refine px_iload dX6_dearerBy_117 rfl ?_
          refine px_bipush (v := nI 99) dX6_dearerBy_119 (by decide) ?_
          refine px_icmp_le 129 dX6_dearerBy_121 (by decide) (fun _ => ?_) (fun z => absurd z (by decide))
          refine px_iload dX6_dearerBy_129 rfl ?_
          refine px_iret dX6_dearerBy_131 rfl rfl rfl ⟨congrArg (fun x => some (Value.int (nI x))) ?_, rfl⟩
          have hcl : dcl nt = 2 := if_pos c75
          simp only [dgr, hcl]
          first | omega | (simp; omega) | (simp; done)
      · refine px_iload_n dX6_dearerBy_97 rfl ?_
        refine px_goto 115 dX6_dearerBy_98 (by decide) ?_
        refine px_ist_4 dX6_dearerBy_115 (by decide) rfl ?_
        refine px_iload dX6_dearerBy_117 rfl ?_
        refine px_bipush (v := nI 99) dX6_dearerBy_119 (by decide) ?_
        refine px_icmp_leN 129 dX6_dearerBy_121 (by decide) (by omega) (by omega) (fun c121 => ?_) (fun c121 => ?_)
        · refine px_iload dX6_dearerBy_129 rfl ?_
          refine px_iret dX6_dearerBy_131 rfl rfl rfl ⟨congrArg (fun x => some (Value.int (nI x))) ?_, rfl⟩
          have hcl : dcl nt = 2 := if_pos c75
          simp only [dgr, hcl]
          first | omega | (simp; omega) | (simp; done)
        · refine px_bipush (v := nI 99) dX6_dearerBy_124 (by decide) ?_
          refine px_goto 131 dX6_dearerBy_126 (by decide) ?_
          refine px_iret dX6_dearerBy_131 rfl rfl rfl ⟨congrArg (fun x => some (Value.int (nI x))) ?_, rfl⟩
          have hcl : dcl nt = 2 := if_pos c75
          simp only [dgr, hcl]
          first | omega | (simp; omega) | (simp; done)
def RobI (T : xT) (hm : Nat → Bool) (g g' : Nat → Nat) (pr : Nat → Int32) (U : xT) (i : Nat) : Prop := (Rep g' U ∧ tOK U) ∧ URob T (trob T hm i) U ∧ (∀ q, 39 ≤ q → g' q = g q) ∧ ∀ t, t < i → pr t = oI (tprey T hm t)
theorem RobI.none {T U : xT} {hm : Nat → Bool} {g g' : Nat → Nat} {pr : Nat → Int32} {i : Nat} (h : RobI T hm g g' pr U i) (hp : tprey T hm i = none) : RobI T hm g g' (va_up pr i (-4)) U (i + 1) := by
  refine ⟨h.1, ?_, h.2.2.1, fun t ht => ?_⟩
  · rw [trob_s, hp]; exact h.2.1
  · by_cases hti : t = i
    · subst hti; rw [va_up_self, hp]; rfl
    · rw [va_up_ne _ _ hti]; exact h.2.2.2 t (by omega)
theorem RobI.some {T U : xT} {hm : Nat → Bool} {g g' g2 : Nat → Nat} {pr : Nat → Int32} {i a : Nat} (h : RobI T hm g g' pr U i) (hp : tprey T hm i = some a) (hr : (trob T hm i).testBit a = false) (ha : a < 6) (h2 : Rep g2 (tlose U a)) (hg : ∀ q, 39 ≤ q → g2 q = g' q) : RobI T hm g g2 (va_up pr i (nI a)) (tlose U a) (i + 1) := by
  refine ⟨⟨h2, tlose_ok h.1.2 ha⟩, ?_, fun q hq => (hg q hq).trans (h.2.2.1 q hq), fun t ht => ?_⟩
  · rw [trob_s, hp]; exact h.2.1.step hr
  · by_cases hti : t = i
    · subst hti; rw [va_up_self, hp]; rfl
    · rw [va_up_ne _ _ hti]; exact h.2.2.2 t (by omega)
theorem tprey_h {T : xT} {hm : Nat → Bool} {i : Nat} (h : hm i = true) : tprey T hm i = none := by unfold tprey; rw [if_pos h]
theorem tprey_v {T : xT} {hm : Nat → Bool} {i : Nat} (h : hm i = false) : tprey T hm i = tvic T i (trob T hm i) (T.2 0) := by unfold tprey; rw [if_neg (by simp [h])]
theorem rob_sw {U : xT} {g' : Nat → Nat} {a : Nat} (R : Rep g' U) (hOK : tOK U) (hc : U.2 5 ≤ U.1 2 a) : Rep (va_up g' 21 (U.2 3 ||| 2 ^ a)) (tlose U a) := by
  unfold tlose
  rw [if_pos hc]
  exact R.ups3 hOK.1.1 hOK.1.2.1
theorem rob_so {U : xT} {g' : Nat → Nat} {a : Nat} (R : Rep g' U) (hOK : tOK U) (ha : a < 6) (hc : U.1 2 a < U.2 5) : Rep (va_up (va_up g' (8 + a) ((U.1 1 a + 1) % 4)) (2 + a) 0) (tlose U a) := by
  unfold tlose
  rw [if_neg (by omega)]
  exact (R.up1 hOK.1.1 hOK.1.2.1 ha).up2 hOK.1.1 hOK.1.2.1 ha
theorem rob_g1 {g' : Nat → Nat} {v : Nat} : ∀ q, 39 ≤ q → va_up g' 21 v q = g' q := fun q hq => va_up_ne _ _ (by omega)
theorem rob_g2 {g' : Nat → Nat} {a u v : Nat} (ha : a < 6) : ∀ q, 39 ≤ q → va_up (va_up g' (8 + a) u) (2 + a) v q = g' q := fun q hq => by rw [va_up_ne _ _ (by omega), va_up_ne _ _ (by omega)]
set_option maxHeartbeats 4000000 in
set_option maxRecDepth 100000 in
theorem l_X6_robIn {E : xE} {h : xHp} {w : Nat} {D : xMd} {k : Nat} {g : Nat → Nat} {T : xT} (hk : k < 4) (hOK : tOK T) (x : Int32) (hm : Nat → Bool) (hx : ∀ i, i < 4 → hbit x i = hm i) : ∀ (n i : Nat) (g' : Nat → Nat) (pr : Nat → Int32) (U : xT), i ≤ T.2 1 → T.2 1 + 1 ≤ i + n → RobI T hm g g' pr U i → PW E mX6_robIn (fun v h1 => v = some (.int (nI (trob T hm (T.2 1)))) ∧ ∃ (g' : Nat → Nat) (pr : Nat → Int32) (U : xT), RobI T hm g g' pr U (T.2 1) ∧ h1 = MH E h w (sB (sPr D pr) k g')) 0 0 5 [some (.ref w), some (.ref (w + 5 + k)), some (.int x), some (.int (nI (trob T hm i))), some (.int (nI i)), none] [] (MH E h w (sB (sPr D pr) k g')) := by
  have hm6 := hOK.1.1
  have hm4 := hOK.1.2.1
  intro n
  induction n with
  | zero =>
    intro i g' pr U h1 h2 hI
    omega
  | succ n ih =>
    intro i g' pr U h1 h2 hI
    refine px_iload dX6_robIn_5 rfl ?_
    refine px_aload_n dX6_robIn_7 rfl ?_
    refine px_bipush (v := nI 30) dX6_robIn_8 (by decide) ?_
    refine px_bL (sB_at _ _ _) dX6_robIn_10 hk (by omega) (hI.1.1.th.trans (hI.2.1.1 1 (by decide))) ?_
    refine px_icmp_geN 130 dX6_robIn_11 (by decide) (by first | omega | exact hI.1.2.lt (by decide) | exact hI.1.2.lts (by decide)) (by first | omega | exact hI.1.2.lt (by decide) | exact hI.1.2.lts (by decide)) (fun c11 => ?_) (fun c11 => ?_)
    · refine px_iload_n dX6_robIn_130 rfl ?_
      have hi : i = T.2 1 := by omega
      subst hi
      exact px_iret dX6_robIn_131 rfl rfl rfl ⟨rfl, g', pr, U, hI, rfl⟩
    · refine px_aload_n dX6_robIn_14 rfl ?_
      refine px_get xk_X6 12 dX6_robIn_15 (Or.inl fl_X6_35) MH_obj (by decide) rfl ?_
      refine px_iload dX6_robIn_18 rfl ?_
      refine px_iload_n dX6_robIn_20 rfl ?_
      refine px_iload dX6_robIn_21 rfl ?_
      refine px_si (c_X6_has x i) mw_X6_has wt_X6_has (Or.inl ml_X6_50) dX6_robIn_23 (by decide) rfl rfl (Nat.le_of_ble_eq_true rfl) ⟨rfl, rfl⟩ ?_
      refine px_if_eqB 34 dX6_robIn_26 (by decide) (fun c26 => ?_) (fun c26 => ?_)
      · refine px_aload_n dX6_robIn_34 rfl ?_
        refine px_iload dX6_robIn_35 rfl ?_
        refine px_iload_n dX6_robIn_37 rfl ?_
        refine px_si (c_X6_dearest hk (sB_at _ _ _) hI.1.1 hI.1.2 i (trob T hm i) (by rw [hI.2.1.1 1 (by decide)]; exact c11) (trob_lt hOK.1.1 _)) mw_X6_dearest wt_X6_dearest (Or.inl ml_X6_112) dX6_robIn_38 (by decide) rfl rfl (Nat.le_of_ble_eq_true rfl) ⟨rfl, rfl⟩ ?_
        rcases hv : tvic T i (trob T hm i) (T.2 0) with _ | a
        · refine px_topi (show _ = (-4 : Int32) by rw [hI.2.1.vic, hI.2.1.1 0 (by decide), hv]; rfl) ?_
          refine px_prW dX6_robIn_41 (by omega) (px_heap (h2 := MH E h w (sB (sPr D (va_up pr i (-4))) k g')) rfl ?_)
          refine px_aload_n dX6_robIn_42 rfl ?_
          refine px_get xk_X6 12 dX6_robIn_43 (Or.inl fl_X6_35) MH_obj (by decide) rfl ?_
          refine px_iload dX6_robIn_46 rfl ?_
          refine px_prL dX6_robIn_48 (by omega) (va_up_self _ _ _) ?_
          refine px_bipush (v := -4) dX6_robIn_49 (by decide) ?_
          refine px_icmp_eq 124 dX6_robIn_51 (by decide) (fun _ => ?_) (fun z => absurd z (by decide))
          refine px_inc_4 dX6_robIn_124 rfl (nI_1 _) (by decide) rfl ?_
          refine px_goto 5 dX6_robIn_127 (by decide) ?_
          have hN := hI.none ((tprey_v ((hx i (by omega)).symm.trans c26)).trans hv)
          refine px_fg_5 ?_
          refine px_eq (lo2 := [some (.ref w), some (.ref (w + 5 + k)), some (.int x), some (.int (nI (trob T hm (i + 1)))), some (.int (nI (i + 1))), none]) ?_ rfl rfl (ih (i + 1) _ _ _ (by omega) (by omega) hN)
          rw [trob_s, (tprey_v ((hx i (by omega)).symm.trans c26)).trans hv]
        · have hvr := tvic_nr hv
          have haU : a < U.2 0 := by rw [hI.2.1.1 0 (by decide)]; exact hvr.2.2
          refine px_topi (show _ = nI a by rw [hI.2.1.vic, hI.2.1.1 0 (by decide), hv]; rfl) ?_
          refine px_prW dX6_robIn_41 (by omega) (px_heap (h2 := MH E h w (sB (sPr D (va_up pr i (nI a))) k g')) rfl ?_)
          refine px_aload_n dX6_robIn_42 rfl ?_
          refine px_get xk_X6 12 dX6_robIn_43 (Or.inl fl_X6_35) MH_obj (by decide) rfl ?_
          refine px_iload dX6_robIn_46 rfl ?_
          refine px_prL dX6_robIn_48 (by omega) (va_up_self _ _ _) ?_
          refine px_bipush (v := -4) dX6_robIn_49 (by decide) ?_
          refine px_icmp_eq 124 dX6_robIn_51 (by decide) (fun c51 => ?_) (fun c51 => ?_)
          · exact absurd c51 (nI_m4 (by omega))
          · refine px_aload_n dX6_robIn_54 rfl ?_
            refine px_get xk_X6 12 dX6_robIn_55 (Or.inl fl_X6_35) MH_obj (by decide) rfl ?_
            refine px_iload dX6_robIn_58 rfl ?_
            refine px_prL dX6_robIn_60 (by omega) (va_up_self _ _ _) ?_
            refine px_ist_5 dX6_robIn_61 (by decide) rfl ?_
            refine px_iload_n dX6_robIn_63 rfl ?_
            refine px_iconst (v := nI 1) dX6_robIn_64 (by decide) ?_
            refine px_iload dX6_robIn_65 rfl ?_
            refine px_ishl1 dX6_robIn_67 (by omega) ?_
            refine px_iorN dX6_robIn_68 ?_
            refine px_istn_3 dX6_robIn_69 (by decide) rfl ?_
            refine px_aload_n dX6_robIn_70 rfl ?_
            refine px_iconst (v := nI 2) dX6_robIn_71 (by decide) ?_
            refine px_iload dX6_robIn_72 rfl ?_
            refine px_iaddN dX6_robIn_74 ?_
            refine px_bL (sB_at _ _ _) dX6_robIn_75 hk (by omega) (hI.1.1.de haU) ?_
            refine px_aload_n dX6_robIn_76 rfl ?_
            refine px_bipush (v := nI 22) dX6_robIn_77 (by decide) ?_
            refine px_bL (sB_at _ _ _) dX6_robIn_79 hk (by omega) (hI.1.1.ba) ?_
            refine px_icmp_ltN 99 dX6_robIn_80 (by decide) (by first | omega | exact hI.1.2.lt (by decide) | exact hI.1.2.lts (by decide)) (by first | omega | exact hI.1.2.lt (by decide) | exact hI.1.2.lts (by decide)) (fun c80 => ?_) (fun c80 => ?_)
            · refine px_aload_n dX6_robIn_99 rfl ?_
              refine px_bipush (v := nI 8) dX6_robIn_100 (by decide) ?_
              refine px_iload dX6_robIn_102 rfl ?_
              refine px_iaddN dX6_robIn_104 ?_
              refine px_aload_n dX6_robIn_105 rfl ?_
              refine px_bipush (v := nI 8) dX6_robIn_106 (by decide) ?_
              refine px_iload dX6_robIn_108 rfl ?_
              refine px_iaddN dX6_robIn_110 ?_
              refine px_bL (sB_at _ _ _) dX6_robIn_111 hk (by omega) (hI.1.1.so haU) ?_
              have hq1 := hI.1.2.2.2.1 a
              refine px_iconst (v := nI 1) dX6_robIn_112 (by decide) ?_
              refine px_iaddN dX6_robIn_113 ?_
              refine px_iconst (v := nI 4) dX6_robIn_114 (by decide) ?_
              refine px_iremN dX6_robIn_115 (by first | omega | exact hI.1.2.lt (by decide) | exact hI.1.2.lts (by decide)) (by first | omega | exact hI.1.2.lt (by decide) | exact hI.1.2.lts (by decide)) (by first | omega | exact hI.1.2.lt (by decide) | exact hI.1.2.lts (by decide)) ?_
              refine px_bWs dX6_robIn_116 hk (by omega) ?_
              refine px_aload_n dX6_robIn_117 rfl ?_
              refine px_iconst (v := nI 2) dX6_robIn_118 (by decide) ?_
              refine px_iload dX6_robIn_119 rfl ?_
              refine px_iaddN dX6_robIn_121 ?_
              refine px_iconst (v := nI 0) dX6_robIn_122 (by decide) ?_
              refine px_bWs dX6_robIn_123 hk (by omega) ?_
              refine px_inc_4 dX6_robIn_124 rfl (nI_1 _) (by decide) rfl ?_
              refine px_goto 5 dX6_robIn_127 (by decide) ?_
              have hN := hI.some ((tprey_v ((hx i (by omega)).symm.trans c26)).trans hv) hvr.1 (by omega) (rob_so hI.1.1 hI.1.2 (by omega) c80) (rob_g2 (by omega))
              refine px_fg_5 ?_
              refine px_eq (lo2 := [some (.ref w), some (.ref (w + 5 + k)), some (.int x), some (.int (nI (trob T hm (i + 1)))), some (.int (nI (i + 1))), none]) ?_ rfl rfl (ih (i + 1) _ _ _ (by omega) (by omega) hN)
              rw [trob_s, (tprey_v ((hx i (by omega)).symm.trans c26)).trans hv]
            · refine px_aload_n dX6_robIn_83 rfl ?_
              refine px_bipush (v := nI 21) dX6_robIn_84 (by decide) ?_
              refine px_aload_n dX6_robIn_86 rfl ?_
              refine px_bipush (v := nI 21) dX6_robIn_87 (by decide) ?_
              refine px_bL (sB_at _ _ _) dX6_robIn_89 hk (by omega) (hI.1.1.sw) ?_
              refine px_iconst (v := nI 1) dX6_robIn_90 (by decide) ?_
              refine px_iload dX6_robIn_91 rfl ?_
              refine px_ishl1 dX6_robIn_93 (by omega) ?_
              refine px_iorN dX6_robIn_94 ?_
              refine px_bWs dX6_robIn_95 hk (by omega) ?_
              refine px_goto 124 dX6_robIn_96 (by decide) ?_
              refine px_inc_4 dX6_robIn_124 rfl (nI_1 _) (by decide) rfl ?_
              refine px_goto 5 dX6_robIn_127 (by decide) ?_
              have hN := hI.some ((tprey_v ((hx i (by omega)).symm.trans c26)).trans hv) hvr.1 (by omega) (rob_sw hI.1.1 hI.1.2 c80) rob_g1
              refine px_fg_5 ?_
              refine px_eq (lo2 := [some (.ref w), some (.ref (w + 5 + k)), some (.int x), some (.int (nI (trob T hm (i + 1)))), some (.int (nI (i + 1))), none]) ?_ rfl rfl (ih (i + 1) _ _ _ (by omega) (by omega) hN)
              rw [trob_s, (tprey_v ((hx i (by omega)).symm.trans c26)).trans hv]
      · refine px_bipush (v := -4) dX6_robIn_29 (by decide) ?_
        refine px_goto 41 dX6_robIn_31 (by decide) ?_
        refine px_prW dX6_robIn_41 (by omega) (px_heap (h2 := MH E h w (sB (sPr D (va_up pr i (-4))) k g')) rfl ?_)
        refine px_aload_n dX6_robIn_42 rfl ?_
        refine px_get xk_X6 12 dX6_robIn_43 (Or.inl fl_X6_35) MH_obj (by decide) rfl ?_
        refine px_iload dX6_robIn_46 rfl ?_
        refine px_prL dX6_robIn_48 (by omega) (va_up_self _ _ _) ?_
        refine px_bipush (v := -4) dX6_robIn_49 (by decide) ?_
        refine px_icmp_eq 124 dX6_robIn_51 (by decide) (fun _ => ?_) (fun z => absurd z (by decide))
        refine px_inc_4 dX6_robIn_124 rfl (nI_1 _) (by decide) rfl ?_
        refine px_goto 5 dX6_robIn_127 (by decide) ?_
        have hN := hI.none (tprey_h ((hx i (by omega)).symm.trans c26))
        refine px_fg_5 ?_
        refine px_eq (lo2 := [some (.ref w), some (.ref (w + 5 + k)), some (.int x), some (.int (nI (trob T hm (i + 1)))), some (.int (nI (i + 1))), none]) ?_ rfl rfl (ih (i + 1) _ _ _ (by omega) (by omega) hN)
        rw [trob_s, tprey_h ((hx i (by omega)).symm.trans c26)]
set_option maxHeartbeats 4000000 in
set_option maxRecDepth 100000 in
theorem c_X6_robIn {E : xE} {h : xHp} {w : Nat} {D : xMd} {k : Nat} {g : Nat → Nat} {T : xT} (hk : k < 4) (hOK : tOK T) (x : Int32) (hm : Nat → Bool) (hx : ∀ i, i < 4 → hbit x i = hm i) (R : Rep g T) : PMet E mX6_robIn [.ref w, .ref (w + 5 + k), .int x] (MH E h w (sB D k g)) (fun v h1 => v = some (.int (nI (trob T hm (T.2 1)))) ∧ ∃ (g' : Nat → Nat) (pr : Nat → Int32) (U : xT), RobI T hm g g' pr U (T.2 1) ∧ h1 = MH E h w (sB (sPr D pr) k g')) := by
  refine pm_of [some (.ref w), some (.ref (w + 5 + k)), some (.int x), none, none, none] (by decide +kernel) (Nat.le_of_ble_eq_true rfl) rfl ?_
  refine px_iconst (v := nI 0) dX6_robIn_0 (by decide) ?_
  refine px_istn_3 dX6_robIn_1 (by decide) rfl ?_
  refine px_iconst (v := nI 0) dX6_robIn_2 (by decide) ?_
  refine px_ist_4 dX6_robIn_3 (by decide) rfl ?_
  refine px_heap (h2 := MH E h w (sB (sPr D (mPr D)) k g)) rfl ?_
  exact l_X6_robIn hk hOK x hm hx (T.2 1 + 1) 0 g (mPr D) T (Nat.zero_le _) (by omega) ⟨⟨R, hOK⟩, URob.zero T, fun q _ => rfl, fun t ht => by omega⟩
theorem vgr_y {T U V : xT} {R i : Nat} (hU : URob T R U) (hV : VGr T R U V i) (h1 : (V.2 3).testBit i = false) (h2 : R.testBit i = false) : VGr T R U (tSA V 2 i (dgr (V.1 0 i) (V.1 2 i) ((V.2 2).testBit i) (V.2 4))) (i + 1) := by
  have hi2 : ∀ j, V.1 j i = T.1 j i := fun j => by rw [hV.2 j i, if_neg (by omega), hU.at h2]
  have hs : (T.2 3).testBit i = false := by rw [hV.1 3, hU.swn h2] at h1; exact h1
  refine ⟨hV.1, fun j b => ?_⟩
  simp only [tSA]
  by_cases hb : j = 2 ∧ b = i
  · obtain ⟨rfl, rfl⟩ := hb
    rw [if_pos ⟨rfl, rfl⟩, if_pos ⟨by omega, rfl, h2, hs⟩, hi2, hi2, hV.1 2, hU.1 2 (by decide), hV.1 4, hU.1 4 (by decide)]
    exact dgr_t T b
  · rw [if_neg hb, hV.2 j b]
    by_cases hc : b < i ∧ j = 2 ∧ R.testBit b = false ∧ (T.2 3).testBit b = false
    · rw [if_pos hc, if_pos ⟨by omega, hc.2⟩]
    · rw [if_neg hc, if_neg (fun q => hc ⟨by omega, q.2⟩)]
theorem vgr_n {T U V : xT} {R i : Nat} (hU : URob T R U) (hV : VGr T R U V i) (h1 : (V.2 3).testBit i = true ∨ R.testBit i = true) : VGr T R U (tSA V 2 i (V.1 2 i)) (i + 1) := by
  refine ⟨hV.1, fun j b => ?_⟩
  have hno : ¬ (R.testBit i = false ∧ (T.2 3).testBit i = false) := by
    intro q
    rcases h1 with h1 | h1
    · rw [hV.1 3, hU.swn q.1, q.2] at h1; cases h1
    · rw [q.1] at h1; cases h1
  simp only [tSA]
  by_cases hb : j = 2 ∧ b = i
  · obtain ⟨rfl, rfl⟩ := hb
    rw [if_pos ⟨rfl, rfl⟩, if_neg (fun q => hno q.2.2), hV.2 2 b, if_neg (by omega)]
  · rw [if_neg hb, hV.2 j b]
    by_cases hc : b < i ∧ j = 2 ∧ R.testBit b = false ∧ (T.2 3).testBit b = false
    · rw [if_pos hc, if_pos ⟨by omega, hc.2⟩]
    · rw [if_neg hc, if_neg (fun q => hc ⟨by omega, q.2⟩)]
set_option maxHeartbeats 4000000 in
set_option maxRecDepth 100000 in
theorem l_X6_nightIn {E : xE} {h : xHp} {w : Nat} {D : xMd} {k : Nat} {g : Nat → Nat} {T U : xT} {pr : Nat → Int32} (hk : k < 4) (hOK : tOK T) (x : Int32) (hm : Nat → Bool) (hU : URob T (trob T hm (T.2 1)) U) : ∀ (n i : Nat) (g' : Nat → Nat) (V : xT), i ≤ T.2 0 → T.2 0 + 1 ≤ i + n → Rep g' V → tOK V → VGr T (trob T hm (T.2 1)) U V i → (∀ q, 39 ≤ q → g' q = g q) → PW E mX6_nightIn (fun v h1 => v = none ∧ ∃ (g' : Nat → Nat) (pr : Nat → Int32), Rep g' (tpass T hm) ∧ (∀ q, 39 ≤ q → g' q = g q) ∧ h1 = MH E h w (sB (sPr D pr) k g')) 0 0 10 [some (.ref w), some (.ref (w + 5 + k)), some (.int x), some (.int (nI (trob T hm (T.2 1)))), some (.int (nI i)), none] [] (MH E h w (sB (sPr D pr) k g')) := by
  have hm6 := hOK.1.1
  have hm4 := hOK.1.2.1
  intro n
  induction n with
  | zero =>
    intro i g' V h1 h2 RV hOV hV hgq
    omega
  | succ n ih =>
    intro i g' V h1 h2 RV hOV hV hgq
    refine px_iload dX6_nightIn_10 rfl ?_
    refine px_aload_n dX6_nightIn_12 rfl ?_
    refine px_bipush (v := nI 23) dX6_nightIn_13 (by decide) ?_
    refine px_bL (sB_at _ _ _) dX6_nightIn_15 hk (by omega) (RV.mn.trans ((hV.1 0).trans (hU.1 0 (by decide)))) ?_
    refine px_icmp_geN 101 dX6_nightIn_16 (by decide) (by first | omega | exact hOV.lt (by decide) | exact hOV.lts (by decide)) (by first | omega | exact hOV.lt (by decide) | exact hOV.lts (by decide)) (fun c16 => ?_) (fun c16 => ?_)
    · refine px_aload_n dX6_nightIn_101 rfl ?_
      refine px_iconst (v := nI 0) dX6_nightIn_102 (by decide) ?_
      refine px_dup2 dX6_nightIn_103 rfl rfl ?_
      refine px_bL (sB_at _ _ _) dX6_nightIn_104 hk (by omega) (RV.nt) ?_
      refine px_iconst (v := nI 1) dX6_nightIn_105 (by decide) ?_
      refine px_iaddN dX6_nightIn_106 ?_
      refine px_bWs dX6_nightIn_107 hk (by omega) ?_
      have hi : i = T.2 0 := by omega
      subst hi
      exact px_vret dX6_nightIn_108 rfl rfl rfl ⟨rfl, _, pr, (RV.ups4 hOV.1.1 hOV.1.2.1).like (vgr_end hU hV), fun q hq => (va_up_ne _ _ (by omega)).trans (hgq q hq), rfl⟩
    · have hiV : i < V.2 0 := Nat.lt_of_lt_of_le c16 (Nat.le_of_eq ((hV.1 0).trans (hU.1 0 (by decide))).symm)
      refine px_aload_n dX6_nightIn_19 rfl ?_
      refine px_bipush (v := nI 21) dX6_nightIn_20 (by decide) ?_
      refine px_bL (sB_at _ _ _) dX6_nightIn_22 hk (by omega) (RV.sw) ?_
      refine px_iload dX6_nightIn_23 rfl ?_
      refine px_si (c_X6_has_n (V.2 3) i (by have := hOV.1.2.2.2.1; omega) (by omega)) mw_X6_has wt_X6_has (Or.inl ml_X6_50) dX6_nightIn_25 (by decide) rfl rfl (Nat.le_of_ble_eq_true rfl) ⟨rfl, rfl⟩ ?_
      refine px_if_neB 44 dX6_nightIn_28 (by decide) (fun c28 => ?_) (fun c28 => ?_)
      · refine px_iconst (v := nI 0) dX6_nightIn_44 (by decide) ?_
        refine px_ist_5 dX6_nightIn_45 (by decide) rfl ?_
        refine px_aload_n dX6_nightIn_47 rfl ?_
        refine px_iconst (v := nI 2) dX6_nightIn_48 (by decide) ?_
        refine px_iload dX6_nightIn_49 rfl ?_
        refine px_iaddN dX6_nightIn_51 ?_
        refine px_iload dX6_nightIn_52 rfl ?_
        refine px_if_eq 88 dX6_nightIn_54 (by decide) (fun _ => ?_) (fun z => absurd z (by decide))
        refine px_aload_n dX6_nightIn_88 rfl ?_
        refine px_iconst (v := nI 2) dX6_nightIn_89 (by decide) ?_
        refine px_iload dX6_nightIn_90 rfl ?_
        refine px_iaddN dX6_nightIn_92 ?_
        refine px_bL (sB_at _ _ _) dX6_nightIn_93 hk (by omega) (RV.de hiV) ?_
        refine px_bWs dX6_nightIn_94 hk (by omega) ?_
        refine px_inc_4 dX6_nightIn_95 rfl (nI_1 _) (by decide) rfl ?_
        refine px_goto 10 dX6_nightIn_98 (by decide) ?_
        refine px_fg_5 ?_
        exact ih (i + 1) _ _ (by omega) (by omega) (RV.up2 hOV.1.1 hOV.1.2.1 (by omega)) (tSA_ok hOV (by have := hOV.2.2.2.1 i; omega)) (vgr_n hU hV (Or.inl c28)) (fun q hq => (va_up_ne _ _ (by omega)).trans (hgq q hq))
      · refine px_iload_n dX6_nightIn_31 rfl ?_
        refine px_iload dX6_nightIn_32 rfl ?_
        refine px_si (c_X6_has_n (trob T hm (T.2 1)) i (by have := trob_lt (T := T) (hm := hm) hOK.1.1 (T.2 1); omega) (by omega)) mw_X6_has wt_X6_has (Or.inl ml_X6_50) dX6_nightIn_34 (by decide) rfl rfl (Nat.le_of_ble_eq_true rfl) ⟨rfl, rfl⟩ ?_
        refine px_if_neB 44 dX6_nightIn_37 (by decide) (fun c37 => ?_) (fun c37 => ?_)
        · refine px_iconst (v := nI 0) dX6_nightIn_44 (by decide) ?_
          refine px_ist_5 dX6_nightIn_45 (by decide) rfl ?_
          refine px_aload_n dX6_nightIn_47 rfl ?_
          refine px_iconst (v := nI 2) dX6_nightIn_48 (by decide) ?_
          refine px_iload dX6_nightIn_49 rfl ?_
          refine px_iaddN dX6_nightIn_51 ?_
          refine px_iload dX6_nightIn_52 rfl ?_
          refine px_if_eq 88 dX6_nightIn_54 (by decide) (fun _ => ?_) (fun z => absurd z (by decide))
          refine px_aload_n dX6_nightIn_88 rfl ?_
          refine px_iconst (v := nI 2) dX6_nightIn_89 (by decide) ?_
          refine px_iload dX6_nightIn_90 rfl ?_
          refine px_iaddN dX6_nightIn_92 ?_
          refine px_bL (sB_at _ _ _) dX6_nightIn_93 hk (by omega) (RV.de hiV) ?_
          refine px_bWs dX6_nightIn_94 hk (by omega) ?_
          refine px_inc_4 dX6_nightIn_95 rfl (nI_1 _) (by decide) rfl ?_
          refine px_goto 10 dX6_nightIn_98 (by decide) ?_
          refine px_fg_5 ?_
          exact ih (i + 1) _ _ (by omega) (by omega) (RV.up2 hOV.1.1 hOV.1.2.1 (by omega)) (tSA_ok hOV (by have := hOV.2.2.2.1 i; omega)) (vgr_n hU hV (Or.inr c37)) (fun q hq => (va_up_ne _ _ (by omega)).trans (hgq q hq))
        · refine px_iconst (v := nI 1) dX6_nightIn_40 (by decide) ?_
          refine px_goto 45 dX6_nightIn_41 (by decide) ?_
          refine px_ist_5 dX6_nightIn_45 (by decide) rfl ?_
          refine px_aload_n dX6_nightIn_47 rfl ?_
          refine px_iconst (v := nI 2) dX6_nightIn_48 (by decide) ?_
          refine px_iload dX6_nightIn_49 rfl ?_
          refine px_iaddN dX6_nightIn_51 ?_
          refine px_iload dX6_nightIn_52 rfl ?_
          refine px_if_eq 88 dX6_nightIn_54 (by decide) (fun z => absurd z (by decide)) (fun _ => ?_)
          refine px_aload_n dX6_nightIn_57 rfl ?_
          refine px_bipush (v := nI 24) dX6_nightIn_58 (by decide) ?_
          refine px_iload dX6_nightIn_60 rfl ?_
          refine px_iaddN dX6_nightIn_62 ?_
          refine px_bL (sB_at _ _ _) dX6_nightIn_63 hk (by omega) (RV.ki hiV) ?_
          refine px_aload_n dX6_nightIn_64 rfl ?_
          refine px_iconst (v := nI 2) dX6_nightIn_65 (by decide) ?_
          refine px_iload dX6_nightIn_66 rfl ?_
          refine px_iaddN dX6_nightIn_68 ?_
          refine px_bL (sB_at _ _ _) dX6_nightIn_69 hk (by omega) (RV.de hiV) ?_
          refine px_aload_n dX6_nightIn_70 rfl ?_
          refine px_bipush (v := nI 20) dX6_nightIn_71 (by decide) ?_
          refine px_bL (sB_at _ _ _) dX6_nightIn_73 hk (by omega) (RV.sh) ?_
          refine px_iload dX6_nightIn_74 rfl ?_
          refine px_si (c_X6_has_n (V.2 2) i (by have := hOV.1.2.2.1; omega) (by omega)) mw_X6_has wt_X6_has (Or.inl ml_X6_50) dX6_nightIn_76 (by decide) rfl rfl (Nat.le_of_ble_eq_true rfl) ⟨rfl, rfl⟩ ?_
          refine px_aload_n dX6_nightIn_79 rfl ?_
          refine px_iconst (v := nI 0) dX6_nightIn_80 (by decide) ?_
          refine px_bL (sB_at _ _ _) dX6_nightIn_81 hk (by omega) (RV.nt) ?_
          refine px_si (c_X6_dearerBy (V.1 0 i) (V.1 2 i) ((V.2 2).testBit i) (V.2 4) (hOV.2.1 i) (hOV.2.2.2.1 i) (hOV.lts (by decide))) mw_X6_dearerBy wt_X6_dearerBy (Or.inl ml_X6_119) dX6_nightIn_82 (by decide) rfl rfl (Nat.le_of_ble_eq_true rfl) ⟨rfl, rfl⟩ ?_
          refine px_goto 94 dX6_nightIn_85 (by decide) ?_
          refine px_bWs dX6_nightIn_94 hk (by omega) ?_
          refine px_inc_4 dX6_nightIn_95 rfl (nI_1 _) (by decide) rfl ?_
          refine px_goto 10 dX6_nightIn_98 (by decide) ?_
          refine px_fg_5 ?_
          exact ih (i + 1) _ _ (by omega) (by omega) (RV.up2 hOV.1.1 hOV.1.2.1 (by omega)) (tSA_ok hOV (by have := dgr_le (V.1 0 i) (V.1 2 i) ((V.2 2).testBit i) (V.2 4); omega)) (vgr_y hU hV c28 c37) (fun q hq => (va_up_ne _ _ (by omega)).trans (hgq q hq))
set_option maxHeartbeats 4000000 in
set_option maxRecDepth 100000 in
theorem c_X6_nightIn {E : xE} {h : xHp} {w : Nat} {D : xMd} {k : Nat} {g : Nat → Nat} {T : xT} (hk : k < 4) (hOK : tOK T) (x : Int32) (hm : Nat → Bool) (hx : ∀ i, i < 4 → hbit x i = hm i) (R : Rep g T) : PMet E mX6_nightIn [.ref w, .ref (w + 5 + k), .int x] (MH E h w (sB D k g)) (fun v h1 => v = none ∧ ∃ (g' : Nat → Nat) (pr : Nat → Int32), Rep g' (tpass T hm) ∧ (∀ q, 39 ≤ q → g' q = g q) ∧ h1 = MH E h w (sB (sPr D pr) k g')) := by
  refine pm_of [some (.ref w), some (.ref (w + 5 + k)), some (.int x), none, none, none] (by decide +kernel) (Nat.le_of_ble_eq_true rfl) rfl ?_
  refine px_aload_n dX6_nightIn_0 rfl ?_
  refine px_aload_n dX6_nightIn_1 rfl ?_
  refine px_iload_n dX6_nightIn_2 rfl ?_
  refine px_callV (M2 := mX6_robIn) (c_X6_robIn hk hOK x hm hx R) mw_X6_robIn wm_X6_robIn we_X6_robIn (Or.inl ml_X6_115) dX6_nightIn_3 MH_obj rfl (by decide) rfl rfl (Nat.le_of_ble_eq_true rfl) ⟨Nat.zero_le _, Nat.zero_le _⟩ (fun v h2 hq => ?_)
  obtain ⟨rfl, g1, pr, U, hI, rfl⟩ := hq
  refine px_istn_3 dX6_nightIn_6 (by decide) rfl ?_
  refine px_iconst (v := nI 0) dX6_nightIn_7 (by decide) ?_
  refine px_ist_4 dX6_nightIn_8 (by decide) rfl ?_
  exact l_X6_nightIn hk hOK x hm hI.2.1 (T.2 0 + 1) 0 g1 U (Nat.zero_le _) (by omega) hI.1.1 hI.1.2 ⟨fun j => rfl, fun j b => (if_neg (by omega)).symm⟩ hI.2.2.1
