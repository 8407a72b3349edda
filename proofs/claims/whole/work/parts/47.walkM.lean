set_option maxHeartbeats 4000000 in
set_option maxRecDepth 100000 in
theorem cM_fail (l : Launch) (D : va_G) (h : Nat) (a : Nat → Nat) (cI cZ : ClassId) (sz : Nat) (σ : tp_St) (x1 : Int32) (r : (Int32 × tp_St)) (hr : fM_fail σ x1 = some r) : Met l tp_yM_fail (tp_wsT tp_yM_fail tp_bM_fail 4 (some .int)) { frames := 2, cells := 0, slots := 0, locals := 45 } (tp_PcW D [(cI, .int), (cZ, .boolean)] (tp_wM h a cI cZ σ) sz [.ref h, .int x1]) (tp_qW (some (.int r.1)) D (tp_wM h a cI cZ r.2) (va_A (tp_wM h a cI cZ σ) sz)) 0 0 (va_A (tp_wM h a cI cZ σ) sz) := by
  refine Met.ofW (cc := tp_bM_fail) (maxL := 4) (ret := (some .int)) (by decide) rfl ?_
  intro p e s m args below meth c s₁ B hml hv
  obtain ⟨rfl, hsz, hP, hK, hD0⟩ := hv
  have hx := B.exec
  have hb := B.bytes
  have hrt := B.returns
  have hTB : ∀ w ∈ tp_TB, w.before _ s = true := fun w z => atoms_spec (ws := (tp_wsT tp_yM_fail tp_bM_fail 4 (some .int))) B.pre w (List.mem_cons_of_mem _ z)
  have hown : s.vm.findClass tp_RM = some m.cls := findClass_of_methodNamed B.named
  have hlocks := B.notSynchronized
  have S : CallFix p m c tp_bM_fail 4 s _ tp_TB tp_RM := ⟨hx, hb, hml, hown, hTB⟩
  subst hsz
  have hD : va_D (va_A (tp_wM h a cI cZ σ) s.heap.size) (tp_wM h a cI cZ σ) := hD0.self
  have hA : ∀ q : Nat, s.heap.size ≤ q → va_A (tp_wM h a cI cZ σ) s.heap.size q := fun q z => Or.inr z
  have hS : va_S (va_A (tp_wM h a cI cZ σ) s.heap.size) s.heap s.heap [] := va_S.rf
  have hl := lv_entry ([.ref h, .int x1]) (n := 4) (Nat.le_of_ble_eq_true rfl)
  rw [lg_entry_eq]
  generalize (lg_sl ([.ref h, .int x1]) ++ List.replicate (4 - (lg_sl ([.ref h, .int x1])).length) Slot.unset).toArray = ls at hl ⊢
  have hl : lv_has ls 4 [(0, .ref h), (1, .int x1)] := hl
  rw [fM_fail] at hr
  refine lv_aload_n hx hb dM_fail_0 rfl (lv_at hl 0 rfl) ?_
  refine lv_aload_n hx hb dM_fail_1 rfl (lv_at hl 0 rfl) ?_
  refine lv_iload_n hx hb dM_fail_2 rfl (lv_at hl 1 rfl) ?_
  obtain ⟨q1, hq2, hr⟩ := Option.bind_eq_some_iff.mp hr
  refine tp_kP (rest := [.ref h]) S hK hP hD rfl rfl (cM_isDisk l D h a cI cZ _ σ x1 q1 hq2) (cwV 1 hTB tp_gM_isDisk rfl rfl rfl ⟨rfl, by decide, by decide, by decide +kernel⟩ ⟨Nat.le_of_ble_eq_true rfl, Nat.le_of_ble_eq_true rfl⟩) rfl hl.1 rfl (Nat.le_of_ble_eq_true rfl) dM_fail_3 ⟨Nat.zero_le _, Nat.zero_le _⟩ ?_
  refine lv_if_eq (tgt := 13) hx hb dM_fail_6 (by decide) (fun hc3 => ?_) (fun hc3 => ?_)
  · replace hr := (if_pos hc3).symm.trans hr
    refine lv_iconst (v := 1) hx hb dM_fail_13 (by decide) ?_
    refine tp_ptM0 S hK hP hD hS tp_mM_f0 dM_fail_14 (fun H locs hP hD hS => ?_)
    refine lv_aload_n hx hb dM_fail_17 rfl (lv_at hl 0 rfl) ?_
    refine tp_gtM S hK hP 0 (by decide) (v := .int 1) tp_mM_f0 rfl dM_fail_18 ?_
    refine lv_if_le (tgt := 26) hx hb dM_fail_21 (by decide) (fun z => absurd z (by decide)) (fun _ => ?_)
    refine lv_iconst (v := 0) hx hb dM_fail_24 (by decide) ?_
    obtain rfl := Option.some.inj hr
    exact W.iret (v := 0) hx hb hrt (fun t ht _ => ⟨rfl, by rw [ht]; exact hP, hS.F ht⟩) hS.2.2 dM_fail_25 hlocks
  · replace hr := (if_neg hc3).symm.trans hr
    refine lv_iconst (v := 0) hx hb dM_fail_9 (by decide) ?_
    refine lv_goto (tgt := 14) hx hb dM_fail_10 (by decide) ?_
    refine tp_ptM0 S hK hP hD hS tp_mM_f0 dM_fail_14 (fun H locs hP hD hS => ?_)
    refine lv_aload_n hx hb dM_fail_17 rfl (lv_at hl 0 rfl) ?_
    refine tp_gtM S hK hP 0 (by decide) (v := .int 0) tp_mM_f0 rfl dM_fail_18 ?_
    refine lv_if_le (tgt := 26) hx hb dM_fail_21 (by decide) (fun _ => ?_) (fun z => absurd (by decide) z)
    refine lv_aload_n hx hb dM_fail_26 rfl (lv_at hl 0 rfl) ?_
    refine lv_iload_n hx hb dM_fail_27 rfl (lv_at hl 1 rfl) ?_
    obtain ⟨q4, hq5, hr⟩ := Option.bind_eq_some_iff.mp hr
    refine tp_kP (rest := []) S hK hP hD rfl rfl (cM_used l D h a cI cZ _ (tp_up σ 0 0 0) x1 q4 hq5) (cwV 1 hTB tp_gM_used rfl rfl rfl ⟨rfl, by decide, by decide, by decide +kernel⟩ ⟨Nat.le_of_ble_eq_true rfl, Nat.le_of_ble_eq_true rfl⟩) rfl hl.1 rfl (Nat.le_of_ble_eq_true rfl) dM_fail_28 ⟨Nat.zero_le _, Nat.zero_le _⟩ ?_
    refine lv_istore_n hx hb dM_fail_31 rfl hl (by decide) rfl (fun ls hl => ?_)
    have hl : lv_has ls 4 [(2, .int q4), (0, .ref h), (1, .int x1)] := hl
    refine lv_iconst (v := 0) hx hb dM_fail_32 (by decide) ?_
    refine lv_istore_n hx hb dM_fail_33 rfl hl (by decide) rfl (fun ls hl => ?_)
    have hl : lv_has ls 4 [(3, .int 0), (2, .int q4), (0, .ref h), (1, .int x1)] := hl
    have loop34 : ∀ (n34 : Nat) (x3 : Int32) (σ34 : tp_St) (H : Heap) (locs : List Loc) (ls : Array Slot), fM_fail_L34 x1 q4 n34 x3 σ34 = some r → lv_has ls 4 [(0, .ref h), (1, .int x1), (2, .int q4), (3, .int x3)] → va_P D tp_CL (tp_wM h a cI cZ σ34) H → va_D (va_A (tp_wM h a cI cZ σ) s.heap.size) (tp_wM h a cI cZ σ34) → va_S (va_A (tp_wM h a cI cZ σ) s.heap.size) s.heap H locs → W p l e { frames := 2, cells := 0, slots := 0, locals := 45 } s m (([.ref h, .int x1] : List Value).toArray) below meth c H locs 0 0 (MQ below (tp_qW (some (.int r.1)) D (tp_wM h a cI cZ r.2) (va_A (tp_wM h a cI cZ σ) s.heap.size)) (([.ref h, .int x1] : List Value).toArray) s 0 0 (va_A (tp_wM h a cI cZ σ) s.heap.size)) (F0 m 34 ls []) := by
      intro n34
      induction n34 with
      | zero => intro x3 σ34 H locs ls hr hl hP hD hS; exact nomatch (show (none : Option (Int32 × tp_St)) = some r from hr)
      | succ n34 ih34 =>
        intro x3 σ34 H locs ls hr hl hP hD hS
        rw [fM_fail_L34] at hr
        refine lv_iload_n hx hb dM_fail_34 rfl (lv_at hl 3 rfl) ?_
        refine lv_sipush (v := 400) hx hb dM_fail_35 (by decide) ?_
        refine lv_icmp_ge (tgt := 81) hx hb dM_fail_38 (by decide) (fun hc6 => ?_) (fun hc6 => ?_)
        · replace hr := (if_pos hc6).symm.trans hr
          refine lv_aload_n hx hb dM_fail_81 rfl (lv_at hl 0 rfl) ?_
          refine tp_gtM S hK hP 1 (by decide) (v := .ref (a 1)) tp_mM_f1 rfl dM_fail_82 ?_
          refine lv_iload_n hx hb dM_fail_85 rfl (lv_at hl 1 rfl) ?_
          refine lv_iconst (v := 0) hx hb dM_fail_86 (by decide) ?_
          by_cases hb7 : tp_oob x1 12
          · exact nomatch ((if_pos hb7).symm.trans hr)
          replace hr := (if_neg hb7).symm.trans hr
          refine tp_asM1 S hK hP hD hS hb7 dM_fail_87 (fun H locs hP hD hS => ?_)
          refine lv_iload_n hx hb dM_fail_88 rfl (lv_at hl 2 rfl) ?_
          obtain rfl := Option.some.inj hr
          exact W.iret (v := q4) hx hb hrt (fun t ht _ => ⟨rfl, by rw [ht]; exact hP, hS.F ht⟩) hS.2.2 dM_fail_89 hlocks
        · replace hr := (if_neg hc6).symm.trans hr
          refine lv_aload_n hx hb dM_fail_41 rfl (lv_at hl 0 rfl) ?_
          refine tp_gtM S hK hP 4 (by decide) (v := .ref (a 4)) tp_mM_f4 rfl dM_fail_42 ?_
          refine lv_iload_n hx hb dM_fail_45 rfl (lv_at hl 3 rfl) ?_
          refine lv_aload_n hx hb dM_fail_46 rfl (lv_at hl 0 rfl) ?_
          refine lv_iload_n hx hb dM_fail_47 rfl (lv_at hl 3 rfl) ?_
          refine lv_iload_n hx hb dM_fail_48 rfl (lv_at hl 1 rfl) ?_
          obtain ⟨q8, hq9, hr⟩ := Option.bind_eq_some_iff.mp hr
          refine tp_kP (rest := [.int x3, .ref (a 4)]) S hK hP hD rfl rfl (cM_isOn l D h a cI cZ _ σ34 x3 x1 q8 hq9) (cwV 2 hTB tp_gM_isOn rfl rfl rfl ⟨rfl, by decide, by decide, by decide +kernel⟩ ⟨Nat.le_of_ble_eq_true rfl, Nat.le_of_ble_eq_true rfl⟩) rfl hl.1 rfl (Nat.le_of_ble_eq_true rfl) dM_fail_49 ⟨Nat.zero_le _, Nat.zero_le _⟩ ?_
          refine lv_if_eq (tgt := 68) hx hb dM_fail_52 (by decide) (fun hc10 => ?_) (fun hc10 => ?_)
          · replace hr := (if_pos hc10).symm.trans hr
            refine lv_aload_n hx hb dM_fail_68 rfl (lv_at hl 0 rfl) ?_
            refine tp_gtM S hK hP 4 (by decide) (v := .ref (a 4)) tp_mM_f4 rfl dM_fail_69 ?_
            refine lv_iload_n hx hb dM_fail_72 rfl (lv_at hl 3 rfl) ?_
            by_cases hb11 : tp_oob x3 400
            · exact nomatch ((if_pos hb11).symm.trans hr)
            replace hr := (if_neg hb11).symm.trans hr
            refine va_iald hx hb hK hP 4 0 rfl rfl hb11 dM_fail_73 ?_
            refine tp_asM4 S hK hP hD hS hb11 dM_fail_74 (fun H locs hP hD hS => ?_)
            refine lv_iinc (k := 3) (v := (x3 + 1)) hx hb dM_fail_75 hl rfl (tp_ii1 _) (by decide) rfl (fun ls hl => ?_)
            have hl : lv_has ls 4 [(3, .int (x3 + 1)), (0, .ref h), (1, .int x1), (2, .int q4)] := hl
            refine lv_goto (tgt := 34) hx hb dM_fail_78 (by decide) ?_
            exact ih34 (x3 + 1) (tp_up σ34 4 x3.toNatClampNeg (σ34 4 x3.toNatClampNeg)) H locs ls hr (lv_sub hl [1, 2, 3, 0] rfl) hP hD hS
          · replace hr := (if_neg hc10).symm.trans hr
            refine lv_aload_n hx hb dM_fail_55 rfl (lv_at hl 0 rfl) ?_
            refine tp_gtM S hK hP 4 (by decide) (v := .ref (a 4)) tp_mM_f4 rfl dM_fail_56 ?_
            refine lv_iload_n hx hb dM_fail_59 rfl (lv_at hl 3 rfl) ?_
            by_cases hb12 : tp_oob x3 400
            · exact nomatch ((if_pos hb12).symm.trans hr)
            replace hr := (if_neg hb12).symm.trans hr
            refine va_iald hx hb hK hP 4 0 rfl rfl hb12 dM_fail_60 ?_
            refine lv_iconst (v := 1) hx hb dM_fail_61 (by decide) ?_
            refine lv_iload_n hx hb dM_fail_62 rfl (lv_at hl 1 rfl) ?_
            refine lv_ishl hx hb dM_fail_63 ?_
            refine lv_isub hx hb dM_fail_64 ?_
            refine lv_goto (tgt := 74) hx hb dM_fail_65 (by decide) ?_
            refine tp_asM4 S hK hP hD hS hb12 dM_fail_74 (fun H locs hP hD hS => ?_)
            refine lv_iinc (k := 3) (v := (x3 + 1)) hx hb dM_fail_75 hl rfl (tp_ii1 _) (by decide) rfl (fun ls hl => ?_)
            have hl : lv_has ls 4 [(3, .int (x3 + 1)), (0, .ref h), (1, .int x1), (2, .int q4)] := hl
            refine lv_goto (tgt := 34) hx hb dM_fail_78 (by decide) ?_
            exact ih34 (x3 + 1) (tp_up σ34 4 x3.toNatClampNeg ((σ34 4 x3.toNatClampNeg) - (1 <<< (x1 &&& 31)))) H locs ls hr (lv_sub hl [1, 2, 3, 0] rfl) hP hD hS
    exact loop34 401 0 (tp_up σ 0 0 0) _ _ ls hr (lv_sub hl [2, 3, 1, 0] rfl) hP hD hS
set_option maxHeartbeats 4000000 in
set_option maxRecDepth 100000 in
theorem cM_leave (l : Launch) (D : va_G) (h : Nat) (a : Nat → Nat) (cI cZ : ClassId) (sz : Nat) (σ : tp_St) (x1 : Int32) (r : (Int32 × tp_St)) (hr : fM_leave σ x1 = some r) : Met l tp_yM_leave (tp_wsT tp_yM_leave tp_bM_leave 3 (some .int)) { frames := 4, cells := 0, slots := 0, locals := 88 } (tp_PcW D [(cI, .int), (cZ, .boolean)] (tp_wM h a cI cZ σ) sz [.ref h, .int x1]) (tp_qW (some (.int r.1)) D (tp_wM h a cI cZ r.2) (va_A (tp_wM h a cI cZ σ) sz)) 0 0 (va_A (tp_wM h a cI cZ σ) sz) := by
  refine Met.ofW (cc := tp_bM_leave) (maxL := 3) (ret := (some .int)) (by decide) rfl ?_
  intro p e s m args below meth c s₁ B hml hv
  obtain ⟨rfl, hsz, hP, hK, hD0⟩ := hv
  have hx := B.exec
  have hb := B.bytes
  have hrt := B.returns
  have hTB : ∀ w ∈ tp_TB, w.before _ s = true := fun w z => atoms_spec (ws := (tp_wsT tp_yM_leave tp_bM_leave 3 (some .int))) B.pre w (List.mem_cons_of_mem _ z)
  have hown : s.vm.findClass tp_RM = some m.cls := findClass_of_methodNamed B.named
  have hlocks := B.notSynchronized
  have S : CallFix p m c tp_bM_leave 3 s _ tp_TB tp_RM := ⟨hx, hb, hml, hown, hTB⟩
  subst hsz
  have hD : va_D (va_A (tp_wM h a cI cZ σ) s.heap.size) (tp_wM h a cI cZ σ) := hD0.self
  have hA : ∀ q : Nat, s.heap.size ≤ q → va_A (tp_wM h a cI cZ σ) s.heap.size q := fun q z => Or.inr z
  have hS : va_S (va_A (tp_wM h a cI cZ σ) s.heap.size) s.heap s.heap [] := va_S.rf
  have hl := lv_entry ([.ref h, .int x1]) (n := 3) (Nat.le_of_ble_eq_true rfl)
  rw [lg_entry_eq]
  generalize (lg_sl ([.ref h, .int x1]) ++ List.replicate (3 - (lg_sl ([.ref h, .int x1])).length) Slot.unset).toArray = ls at hl ⊢
  have hl : lv_has ls 3 [(0, .ref h), (1, .int x1)] := hl
  rw [fM_leave] at hr
  refine lv_aload_n hx hb dM_leave_0 rfl (lv_at hl 0 rfl) ?_
  refine lv_aload_n hx hb dM_leave_1 rfl (lv_at hl 0 rfl) ?_
  refine lv_iload_n hx hb dM_leave_2 rfl (lv_at hl 1 rfl) ?_
  obtain ⟨q1, hq2, hr⟩ := Option.bind_eq_some_iff.mp hr
  refine tp_kP (rest := [.ref h]) S hK hP hD rfl rfl (cM_isDisk l D h a cI cZ _ σ x1 q1 hq2) (cwV 1 hTB tp_gM_isDisk rfl rfl rfl ⟨rfl, by decide, by decide, by decide +kernel⟩ ⟨Nat.le_of_ble_eq_true rfl, Nat.le_of_ble_eq_true rfl⟩) rfl hl.1 rfl (Nat.le_of_ble_eq_true rfl) dM_leave_3 ⟨Nat.zero_le _, Nat.zero_le _⟩ ?_
  refine lv_if_ne (tgt := 13) hx hb dM_leave_6 (by decide) (fun hc3 => ?_) (fun hc3 => ?_)
  · replace hr := (if_neg hc3).symm.trans hr
    refine lv_aload_n hx hb dM_leave_13 rfl (lv_at hl 0 rfl) ?_
    refine tp_gtM S hK hP 2 (by decide) (v := .ref (a 2)) tp_mM_f2 rfl dM_leave_14 ?_
    refine lv_iload_n hx hb dM_leave_17 rfl (lv_at hl 1 rfl) ?_
    by_cases hb4 : tp_oob x1 12
    · exact nomatch ((if_pos hb4).symm.trans hr)
    replace hr := (if_neg hb4).symm.trans hr
    refine va_zald hx hb hK hP 2 1 rfl rfl hb4 dM_leave_18 ?_
    refine lv_if_ne (tgt := 36) hx hb dM_leave_19 (by decide) (fun hc5 => ?_) (fun hc5 => ?_)
    · replace hr := (if_neg hc5).symm.trans hr
      refine lv_iconst (v := 2) hx hb dM_leave_36 (by decide) ?_
      refine lv_goto (tgt := 57) hx hb dM_leave_37 (by decide) ?_
      refine tp_ptM0 S hK hP hD hS tp_mM_f0 dM_leave_57 (fun H locs hP hD hS => ?_)
      refine lv_aload_n hx hb dM_leave_60 rfl (lv_at hl 0 rfl) ?_
      refine tp_gtM S hK hP 0 (by decide) (v := .int 2) tp_mM_f0 rfl dM_leave_61 ?_
      refine lv_if_le (tgt := 69) hx hb dM_leave_64 (by decide) (fun z => absurd z (by decide)) (fun _ => ?_)
      refine lv_iconst (v := 0) hx hb dM_leave_67 (by decide) ?_
      obtain rfl := Option.some.inj hr
      exact W.iret (v := 0) hx hb hrt (fun t ht _ => ⟨rfl, by rw [ht]; exact hP, hS.F ht⟩) hS.2.2 dM_leave_68 hlocks
    · replace hr := (if_pos hc5).symm.trans hr
      refine lv_aload_n hx hb dM_leave_22 rfl (lv_at hl 0 rfl) ?_
      refine lv_iconst (v := 0) hx hb dM_leave_23 (by decide) ?_
      obtain ⟨q6, hq7, hr⟩ := Option.bind_eq_some_iff.mp hr
      refine tp_kP (rest := [.ref h]) S hK hP hD rfl rfl (cM_countWith l D h a cI cZ _ σ 0 q6 hq7) (cwV 1 hTB tp_gM_countWith rfl rfl rfl ⟨rfl, by decide, by decide, by decide +kernel⟩ ⟨Nat.le_of_ble_eq_true rfl, Nat.le_of_ble_eq_true rfl⟩) rfl hl.1 rfl (Nat.le_of_ble_eq_true rfl) dM_leave_24 ⟨Nat.zero_le _, Nat.zero_le _⟩ ?_
      refine lv_aload_n hx hb dM_leave_27 rfl (lv_at hl 0 rfl) ?_
      refine lv_iconst (v := 1) hx hb dM_leave_28 (by decide) ?_
      obtain ⟨q8, hq9, hr⟩ := Option.bind_eq_some_iff.mp hr
      refine tp_kP (rest := [.int q6, .ref h]) S hK hP hD rfl rfl (cM_countWith l D h a cI cZ _ σ 1 q8 hq9) (cwV 1 hTB tp_gM_countWith rfl rfl rfl ⟨rfl, by decide, by decide, by decide +kernel⟩ ⟨Nat.le_of_ble_eq_true rfl, Nat.le_of_ble_eq_true rfl⟩) rfl hl.1 rfl (Nat.le_of_ble_eq_true rfl) dM_leave_29 ⟨Nat.zero_le _, Nat.zero_le _⟩ ?_
      refine lv_iadd hx hb dM_leave_32 ?_
      refine lv_if_le (tgt := 40) hx hb dM_leave_33 (by decide) (fun hc10 => ?_) (fun hc10 => ?_)
      · replace hr := (if_pos hc10).symm.trans hr
        refine lv_aload_n hx hb dM_leave_40 rfl (lv_at hl 0 rfl) ?_
        obtain ⟨q11, hq12, hr⟩ := Option.bind_eq_some_iff.mp hr
        refine tp_kP (rest := [.ref h]) S hK hP hD rfl rfl (cM_chunkCount l D h a cI cZ _ σ  q11 hq12) (cwV 0 hTB tp_gM_chunkCount rfl rfl rfl ⟨rfl, by decide, by decide, by decide +kernel⟩ ⟨Nat.le_of_ble_eq_true rfl, Nat.le_of_ble_eq_true rfl⟩) rfl hl.1 rfl (Nat.le_of_ble_eq_true rfl) dM_leave_41 ⟨Nat.zero_le _, Nat.zero_le _⟩ ?_
        refine lv_aload_n hx hb dM_leave_44 rfl (lv_at hl 0 rfl) ?_
        refine lv_iload_n hx hb dM_leave_45 rfl (lv_at hl 1 rfl) ?_
        obtain ⟨q13, hq14, hr⟩ := Option.bind_eq_some_iff.mp hr
        refine tp_kP (rest := [.int q11, .ref h]) S hK hP hD rfl rfl (cM_capacity l D h a cI cZ _ σ x1 q13 hq14) (cwV 1 hTB tp_gM_capacity rfl rfl rfl ⟨rfl, by decide, by decide, by decide +kernel⟩ ⟨Nat.le_of_ble_eq_true rfl, Nat.le_of_ble_eq_true rfl⟩) rfl hl.1 rfl (Nat.le_of_ble_eq_true rfl) dM_leave_46 ⟨Nat.zero_le _, Nat.zero_le _⟩ ?_
        refine lv_icmp_le (tgt := 56) hx hb dM_leave_49 (by decide) (fun hc15 => ?_) (fun hc15 => ?_)
        · replace hr := (if_pos hc15).symm.trans hr
          refine lv_iconst (v := 0) hx hb dM_leave_56 (by decide) ?_
          refine tp_ptM0 S hK hP hD hS tp_mM_f0 dM_leave_57 (fun H locs hP hD hS => ?_)
          refine lv_aload_n hx hb dM_leave_60 rfl (lv_at hl 0 rfl) ?_
          refine tp_gtM S hK hP 0 (by decide) (v := .int 0) tp_mM_f0 rfl dM_leave_61 ?_
          refine lv_if_le (tgt := 69) hx hb dM_leave_64 (by decide) (fun _ => ?_) (fun z => absurd (by decide) z)
          refine lv_aload_n hx hb dM_leave_69 rfl (lv_at hl 0 rfl) ?_
          refine tp_gtM S hK hP 2 (by decide) (v := .ref (a 2)) tp_mM_f2 rfl dM_leave_70 ?_
          refine lv_iload_n hx hb dM_leave_73 rfl (lv_at hl 1 rfl) ?_
          refine lv_iconst (v := 1) hx hb dM_leave_74 (by decide) ?_
          refine tp_asM2 S hK hP hD hS hb4 dM_leave_75 (fun H locs hP hD hS => ?_)
          refine lv_aload_n hx hb dM_leave_76 rfl (lv_at hl 0 rfl) ?_
          refine lv_iload_n hx hb dM_leave_77 rfl (lv_at hl 1 rfl) ?_
          obtain ⟨q16, hq17, hr⟩ := Option.bind_eq_some_iff.mp hr
          refine tp_kP (rest := []) S hK hP hD rfl rfl (cM_used l D h a cI cZ _ (tp_up (tp_up σ 0 0 0) 2 x1.toNatClampNeg (vp_nar .boolean 1)) x1 q16 hq17) (cwV 1 hTB tp_gM_used rfl rfl rfl ⟨rfl, by decide, by decide, by decide +kernel⟩ ⟨Nat.le_of_ble_eq_true rfl, Nat.le_of_ble_eq_true rfl⟩) rfl hl.1 rfl (Nat.le_of_ble_eq_true rfl) dM_leave_78 ⟨Nat.zero_le _, Nat.zero_le _⟩ ?_
          refine lv_istore_n hx hb dM_leave_81 rfl hl (by decide) rfl (fun ls hl => ?_)
          have hl : lv_has ls 3 [(2, .int q16), (0, .ref h), (1, .int x1)] := hl
          refine lv_aload_n hx hb dM_leave_82 rfl (lv_at hl 1 rfl) ?_
          obtain ⟨q18, hq19, hr⟩ := Option.bind_eq_some_iff.mp hr
          refine tp_kV (rest := []) S hK hP hD hS hA rfl rfl (cM_tidy l D h a cI cZ _ (tp_up (tp_up σ 0 0 0) 2 x1.toNatClampNeg (vp_nar .boolean 1))  q18 hq19) (cwV 0 hTB tp_gM_tidy rfl rfl rfl ⟨rfl, by decide, by decide, by decide +kernel⟩ ⟨Nat.le_of_ble_eq_true rfl, Nat.le_of_ble_eq_true rfl⟩) rfl hl.1 rfl (Nat.le_of_ble_eq_true rfl) dM_leave_83 ⟨Nat.zero_le _, Nat.zero_le _⟩ (fun H locs hP hS => ?_)
          have hP : va_P D tp_CL (tp_wM h a cI cZ q18) H := hP
          have hD : va_D (va_A (tp_wM h a cI cZ σ) s.heap.size) (tp_wM h a cI cZ q18) := tp_dre hD tp_wM_fst
          refine lv_iload_n hx hb dM_leave_86 rfl (lv_at hl 0 rfl) ?_
          obtain rfl := Option.some.inj hr
          exact W.iret (v := q16) hx hb hrt (fun t ht _ => ⟨rfl, by rw [ht]; exact hP, hS.F ht⟩) hS.2.2 dM_leave_87 hlocks
        · replace hr := (if_neg hc15).symm.trans hr
          refine lv_iconst (v := 3) hx hb dM_leave_52 (by decide) ?_
          refine lv_goto (tgt := 57) hx hb dM_leave_53 (by decide) ?_
          refine tp_ptM0 S hK hP hD hS tp_mM_f0 dM_leave_57 (fun H locs hP hD hS => ?_)
          refine lv_aload_n hx hb dM_leave_60 rfl (lv_at hl 0 rfl) ?_
          refine tp_gtM S hK hP 0 (by decide) (v := .int 3) tp_mM_f0 rfl dM_leave_61 ?_
          refine lv_if_le (tgt := 69) hx hb dM_leave_64 (by decide) (fun z => absurd z (by decide)) (fun _ => ?_)
          refine lv_iconst (v := 0) hx hb dM_leave_67 (by decide) ?_
          obtain rfl := Option.some.inj hr
          exact W.iret (v := 0) hx hb hrt (fun t ht _ => ⟨rfl, by rw [ht]; exact hP, hS.F ht⟩) hS.2.2 dM_leave_68 hlocks
      · replace hr := (if_neg hc10).symm.trans hr
        refine lv_iconst (v := 2) hx hb dM_leave_36 (by decide) ?_
        refine lv_goto (tgt := 57) hx hb dM_leave_37 (by decide) ?_
        refine tp_ptM0 S hK hP hD hS tp_mM_f0 dM_leave_57 (fun H locs hP hD hS => ?_)
        refine lv_aload_n hx hb dM_leave_60 rfl (lv_at hl 0 rfl) ?_
        refine tp_gtM S hK hP 0 (by decide) (v := .int 2) tp_mM_f0 rfl dM_leave_61 ?_
        refine lv_if_le (tgt := 69) hx hb dM_leave_64 (by decide) (fun z => absurd z (by decide)) (fun _ => ?_)
        refine lv_iconst (v := 0) hx hb dM_leave_67 (by decide) ?_
        obtain rfl := Option.some.inj hr
        exact W.iret (v := 0) hx hb hrt (fun t ht _ => ⟨rfl, by rw [ht]; exact hP, hS.F ht⟩) hS.2.2 dM_leave_68 hlocks
  · replace hr := (if_pos hc3).symm.trans hr
    refine lv_iconst (v := 1) hx hb dM_leave_9 (by decide) ?_
    refine lv_goto (tgt := 57) hx hb dM_leave_10 (by decide) ?_
    refine tp_ptM0 S hK hP hD hS tp_mM_f0 dM_leave_57 (fun H locs hP hD hS => ?_)
    refine lv_aload_n hx hb dM_leave_60 rfl (lv_at hl 0 rfl) ?_
    refine tp_gtM S hK hP 0 (by decide) (v := .int 1) tp_mM_f0 rfl dM_leave_61 ?_
    refine lv_if_le (tgt := 69) hx hb dM_leave_64 (by decide) (fun z => absurd z (by decide)) (fun _ => ?_)
    refine lv_iconst (v := 0) hx hb dM_leave_67 (by decide) ?_
    obtain rfl := Option.some.inj hr
    exact W.iret (v := 0) hx hb hrt (fun t ht _ => ⟨rfl, by rw [ht]; exact hP, hS.F ht⟩) hS.2.2 dM_leave_68 hlocks
set_option maxHeartbeats 4000000 in
set_option maxRecDepth 100000 in
theorem cM_stay (l : Launch) (D : va_G) (h : Nat) (a : Nat → Nat) (cI cZ : ClassId) (sz : Nat) (σ : tp_St) (x1 : Int32) (r : tp_St) (hr : fM_stay σ x1 = some r) : Met l tp_yM_stay (tp_wsT tp_yM_stay tp_bM_stay 2 none) { frames := 1, cells := 0, slots := 0, locals := 21 } (tp_PcW D [(cI, .int), (cZ, .boolean)] (tp_wM h a cI cZ σ) sz [.ref h, .int x1]) (tp_qW none D (tp_wM h a cI cZ r) (va_A (tp_wM h a cI cZ σ) sz)) 0 0 (va_A (tp_wM h a cI cZ σ) sz) := by
  refine Met.ofW (cc := tp_bM_stay) (maxL := 2) (ret := none) (by decide) rfl ?_
  intro p e s m args below meth c s₁ B hml hv
  obtain ⟨rfl, hsz, hP, hK, hD0⟩ := hv
  have hx := B.exec
  have hb := B.bytes
  have hrt := B.returns
  have hTB : ∀ w ∈ tp_TB, w.before _ s = true := fun w z => atoms_spec (ws := (tp_wsT tp_yM_stay tp_bM_stay 2 none)) B.pre w (List.mem_cons_of_mem _ z)
  have hown : s.vm.findClass tp_RM = some m.cls := findClass_of_methodNamed B.named
  have hlocks := B.notSynchronized
  have S : CallFix p m c tp_bM_stay 2 s _ tp_TB tp_RM := ⟨hx, hb, hml, hown, hTB⟩
  subst hsz
  have hD : va_D (va_A (tp_wM h a cI cZ σ) s.heap.size) (tp_wM h a cI cZ σ) := hD0.self
  have hA : ∀ q : Nat, s.heap.size ≤ q → va_A (tp_wM h a cI cZ σ) s.heap.size q := fun q z => Or.inr z
  have hS : va_S (va_A (tp_wM h a cI cZ σ) s.heap.size) s.heap s.heap [] := va_S.rf
  have hl := lv_entry ([.ref h, .int x1]) (n := 2) (Nat.le_of_ble_eq_true rfl)
  rw [lg_entry_eq]
  generalize (lg_sl ([.ref h, .int x1]) ++ List.replicate (2 - (lg_sl ([.ref h, .int x1])).length) Slot.unset).toArray = ls at hl ⊢
  have hl : lv_has ls 2 [(0, .ref h), (1, .int x1)] := hl
  rw [fM_stay] at hr
  refine lv_aload_n hx hb dM_stay_0 rfl (lv_at hl 0 rfl) ?_
  refine lv_aload_n hx hb dM_stay_1 rfl (lv_at hl 0 rfl) ?_
  refine lv_iload_n hx hb dM_stay_2 rfl (lv_at hl 1 rfl) ?_
  obtain ⟨q1, hq2, hr⟩ := Option.bind_eq_some_iff.mp hr
  refine tp_kP (rest := [.ref h]) S hK hP hD rfl rfl (cM_isDisk l D h a cI cZ _ σ x1 q1 hq2) (cwV 1 hTB tp_gM_isDisk rfl rfl rfl ⟨rfl, by decide, by decide, by decide +kernel⟩ ⟨Nat.le_of_ble_eq_true rfl, Nat.le_of_ble_eq_true rfl⟩) rfl hl.1 rfl (Nat.le_of_ble_eq_true rfl) dM_stay_3 ⟨Nat.zero_le _, Nat.zero_le _⟩ ?_
  refine lv_if_ne (tgt := 13) hx hb dM_stay_6 (by decide) (fun hc3 => ?_) (fun hc3 => ?_)
  · replace hr := (if_neg hc3).symm.trans hr
    refine lv_aload_n hx hb dM_stay_13 rfl (lv_at hl 0 rfl) ?_
    refine tp_gtM S hK hP 2 (by decide) (v := .ref (a 2)) tp_mM_f2 rfl dM_stay_14 ?_
    refine lv_iload_n hx hb dM_stay_17 rfl (lv_at hl 1 rfl) ?_
    by_cases hb4 : tp_oob x1 12
    · exact nomatch ((if_pos hb4).symm.trans hr)
    replace hr := (if_neg hb4).symm.trans hr
    refine va_zald hx hb hK hP 2 1 rfl rfl hb4 dM_stay_18 ?_
    refine lv_if_ne (tgt := 26) hx hb dM_stay_19 (by decide) (fun hc5 => ?_) (fun hc5 => ?_)
    · replace hr := (if_neg hc5).symm.trans hr
      refine lv_iconst (v := 0) hx hb dM_stay_26 (by decide) ?_
      refine tp_ptM0 S hK hP hD hS tp_mM_f0 dM_stay_27 (fun H locs hP hD hS => ?_)
      refine lv_aload_n hx hb dM_stay_30 rfl (lv_at hl 0 rfl) ?_
      refine tp_gtM S hK hP 0 (by decide) (v := .int 0) tp_mM_f0 rfl dM_stay_31 ?_
      refine lv_if_ne (tgt := 44) hx hb dM_stay_34 (by decide) (fun z => absurd (by decide) z) (fun _ => ?_)
      refine lv_aload_n hx hb dM_stay_37 rfl (lv_at hl 0 rfl) ?_
      refine tp_gtM S hK hP 2 (by decide) (v := .ref (a 2)) tp_mM_f2 rfl dM_stay_38 ?_
      refine lv_iload_n hx hb dM_stay_41 rfl (lv_at hl 1 rfl) ?_
      refine lv_iconst (v := 0) hx hb dM_stay_42 (by decide) ?_
      refine tp_asM2 S hK hP hD hS hb4 dM_stay_43 (fun H locs hP hD hS => ?_)
      obtain rfl := Option.some.inj hr
      exact W.vret hx hb hrt (fun t ht _ => ⟨rfl, by rw [ht]; exact hP, hS.F ht⟩) hS.2.2 dM_stay_44 hlocks
    · replace hr := (if_pos hc5).symm.trans hr
      refine lv_iconst (v := 2) hx hb dM_stay_22 (by decide) ?_
      refine lv_goto (tgt := 27) hx hb dM_stay_23 (by decide) ?_
      refine tp_ptM0 S hK hP hD hS tp_mM_f0 dM_stay_27 (fun H locs hP hD hS => ?_)
      refine lv_aload_n hx hb dM_stay_30 rfl (lv_at hl 0 rfl) ?_
      refine tp_gtM S hK hP 0 (by decide) (v := .int 2) tp_mM_f0 rfl dM_stay_31 ?_
      refine lv_if_ne (tgt := 44) hx hb dM_stay_34 (by decide) (fun _ => ?_) (fun z => absurd z (by decide))
      obtain rfl := Option.some.inj hr
      exact W.vret hx hb hrt (fun t ht _ => ⟨rfl, by rw [ht]; exact hP, hS.F ht⟩) hS.2.2 dM_stay_44 hlocks
  · replace hr := (if_pos hc3).symm.trans hr
    refine lv_iconst (v := 1) hx hb dM_stay_9 (by decide) ?_
    refine lv_goto (tgt := 27) hx hb dM_stay_10 (by decide) ?_
    refine tp_ptM0 S hK hP hD hS tp_mM_f0 dM_stay_27 (fun H locs hP hD hS => ?_)
    refine lv_aload_n hx hb dM_stay_30 rfl (lv_at hl 0 rfl) ?_
    refine tp_gtM S hK hP 0 (by decide) (v := .int 1) tp_mM_f0 rfl dM_stay_31 ?_
    refine lv_if_ne (tgt := 44) hx hb dM_stay_34 (by decide) (fun _ => ?_) (fun z => absurd z (by decide))
    obtain rfl := Option.some.inj hr
    exact W.vret hx hb hrt (fun t ht _ => ⟨rfl, by rw [ht]; exact hP, hS.F ht⟩) hS.2.2 dM_stay_44 hlocks
set_option maxHeartbeats 4000000 in
set_option maxRecDepth 100000 in
theorem cM_write (l : Launch) (D : va_G) (h : Nat) (a : Nat → Nat) (cI cZ : ClassId) (sz : Nat) (σ : tp_St) (x1 : Int32) (x2 : Int32) (x3 : Int32) (r : tp_St) (hr : fM_write σ x1 x2 x3 = some r) : Met l tp_yM_write (tp_wsT tp_yM_write tp_bM_write 4 none) { frames := 1, cells := 0, slots := 0, locals := 21 } (tp_PcW D [(cI, .int), (cZ, .boolean)] (tp_wM h a cI cZ σ) sz [.ref h, .int x1, .int x2, .int x3]) (tp_qW none D (tp_wM h a cI cZ r) (va_A (tp_wM h a cI cZ σ) sz)) 0 0 (va_A (tp_wM h a cI cZ σ) sz) := by
  refine Met.ofW (cc := tp_bM_write) (maxL := 4) (ret := none) (by decide) rfl ?_
  intro p e s m args below meth c s₁ B hml hv
  obtain ⟨rfl, hsz, hP, hK, hD0⟩ := hv
  have hx := B.exec
  have hb := B.bytes
  have hrt := B.returns
  have hTB : ∀ w ∈ tp_TB, w.before _ s = true := fun w z => atoms_spec (ws := (tp_wsT tp_yM_write tp_bM_write 4 none)) B.pre w (List.mem_cons_of_mem _ z)
  have hown : s.vm.findClass tp_RM = some m.cls := findClass_of_methodNamed B.named
  have hlocks := B.notSynchronized
  have S : CallFix p m c tp_bM_write 4 s _ tp_TB tp_RM := ⟨hx, hb, hml, hown, hTB⟩
  subst hsz
  have hD : va_D (va_A (tp_wM h a cI cZ σ) s.heap.size) (tp_wM h a cI cZ σ) := hD0.self
  have hA : ∀ q : Nat, s.heap.size ≤ q → va_A (tp_wM h a cI cZ σ) s.heap.size q := fun q z => Or.inr z
  have hS : va_S (va_A (tp_wM h a cI cZ σ) s.heap.size) s.heap s.heap [] := va_S.rf
  have hl := lv_entry ([.ref h, .int x1, .int x2, .int x3]) (n := 4) (Nat.le_of_ble_eq_true rfl)
  rw [lg_entry_eq]
  generalize (lg_sl ([.ref h, .int x1, .int x2, .int x3]) ++ List.replicate (4 - (lg_sl ([.ref h, .int x1, .int x2, .int x3])).length) Slot.unset).toArray = ls at hl ⊢
  have hl : lv_has ls 4 [(0, .ref h), (1, .int x1), (2, .int x2), (3, .int x3)] := hl
  rw [fM_write] at hr
  refine lv_aload_n hx hb dM_write_0 rfl (lv_at hl 0 rfl) ?_
  refine lv_aload_n hx hb dM_write_1 rfl (lv_at hl 0 rfl) ?_
  refine lv_iload_n hx hb dM_write_2 rfl (lv_at hl 1 rfl) ?_
  obtain ⟨q1, hq2, hr⟩ := Option.bind_eq_some_iff.mp hr
  refine tp_kP (rest := [.ref h]) S hK hP hD rfl rfl (cM_isChunk l D h a cI cZ _ σ x1 q1 hq2) (cwV 1 hTB tp_gM_isChunk rfl rfl rfl ⟨rfl, by decide, by decide, by decide +kernel⟩ ⟨Nat.le_of_ble_eq_true rfl, Nat.le_of_ble_eq_true rfl⟩) rfl hl.1 rfl (Nat.le_of_ble_eq_true rfl) dM_write_3 ⟨Nat.zero_le _, Nat.zero_le _⟩ ?_
  refine lv_if_eq (tgt := 18) hx hb dM_write_6 (by decide) (fun hc3 => ?_) (fun hc3 => ?_)
  · replace hr := (if_pos hc3).symm.trans hr
    refine lv_iconst (v := 1) hx hb dM_write_18 (by decide) ?_
    refine lv_goto (tgt := 36) hx hb dM_write_19 (by decide) ?_
    refine tp_ptM0 S hK hP hD hS tp_mM_f0 dM_write_36 (fun H locs hP hD hS => ?_)
    refine lv_aload_n hx hb dM_write_39 rfl (lv_at hl 0 rfl) ?_
    refine tp_gtM S hK hP 0 (by decide) (v := .int 1) tp_mM_f0 rfl dM_write_40 ?_
    refine lv_if_ne (tgt := 57) hx hb dM_write_43 (by decide) (fun _ => ?_) (fun z => absurd z (by decide))
    obtain rfl := Option.some.inj hr
    exact W.vret hx hb hrt (fun t ht _ => ⟨rfl, by rw [ht]; exact hP, hS.F ht⟩) hS.2.2 dM_write_57 hlocks
  · replace hr := (if_neg hc3).symm.trans hr
    refine lv_iload_n hx hb dM_write_9 rfl (lv_at hl 2 rfl) ?_
    refine lv_if_lt (tgt := 18) hx hb dM_write_10 (by decide) (fun hc4 => ?_) (fun hc4 => ?_)
    · replace hr := (if_pos hc4).symm.trans hr
      refine lv_iconst (v := 1) hx hb dM_write_18 (by decide) ?_
      refine lv_goto (tgt := 36) hx hb dM_write_19 (by decide) ?_
      refine tp_ptM0 S hK hP hD hS tp_mM_f0 dM_write_36 (fun H locs hP hD hS => ?_)
      refine lv_aload_n hx hb dM_write_39 rfl (lv_at hl 0 rfl) ?_
      refine tp_gtM S hK hP 0 (by decide) (v := .int 1) tp_mM_f0 rfl dM_write_40 ?_
      refine lv_if_ne (tgt := 57) hx hb dM_write_43 (by decide) (fun _ => ?_) (fun z => absurd z (by decide))
      obtain rfl := Option.some.inj hr
      exact W.vret hx hb hrt (fun t ht _ => ⟨rfl, by rw [ht]; exact hP, hS.F ht⟩) hS.2.2 dM_write_57 hlocks
    · replace hr := (if_neg hc4).symm.trans hr
      refine lv_iload_n hx hb dM_write_13 rfl (lv_at hl 2 rfl) ?_
      refine lv_iconst (v := 3) hx hb dM_write_14 (by decide) ?_
      refine lv_icmp_le (tgt := 22) hx hb dM_write_15 (by decide) (fun hc5 => ?_) (fun hc5 => ?_)
      · replace hr := (if_pos hc5).symm.trans hr
        refine lv_aload_n hx hb dM_write_22 rfl (lv_at hl 0 rfl) ?_
        refine tp_gtM S hK hP 4 (by decide) (v := .ref (a 4)) tp_mM_f4 rfl dM_write_23 ?_
        refine lv_iload_n hx hb dM_write_26 rfl (lv_at hl 1 rfl) ?_
        by_cases hb6 : tp_oob x1 400
        · exact nomatch ((if_pos hb6).symm.trans hr)
        replace hr := (if_neg hb6).symm.trans hr
        refine va_iald hx hb hK hP 4 0 rfl rfl hb6 dM_write_27 ?_
        refine lv_if_ne (tgt := 35) hx hb dM_write_28 (by decide) (fun hc7 => ?_) (fun hc7 => ?_)
        · replace hr := (if_neg hc7).symm.trans hr
          refine lv_iconst (v := 0) hx hb dM_write_35 (by decide) ?_
          refine tp_ptM0 S hK hP hD hS tp_mM_f0 dM_write_36 (fun H locs hP hD hS => ?_)
          refine lv_aload_n hx hb dM_write_39 rfl (lv_at hl 0 rfl) ?_
          refine tp_gtM S hK hP 0 (by decide) (v := .int 0) tp_mM_f0 rfl dM_write_40 ?_
          refine lv_if_ne (tgt := 57) hx hb dM_write_43 (by decide) (fun z => absurd (by decide) z) (fun _ => ?_)
          refine lv_aload_n hx hb dM_write_46 rfl (lv_at hl 0 rfl) ?_
          refine tp_gtM S hK hP 5 (by decide) (v := .ref (a 5)) tp_mM_f5 rfl dM_write_47 ?_
          refine lv_iconst (v := 4) hx hb dM_write_50 (by decide) ?_
          refine lv_iload_n hx hb dM_write_51 rfl (lv_at hl 1 rfl) ?_
          refine lv_imul hx hb dM_write_52 ?_
          refine lv_iload_n hx hb dM_write_53 rfl (lv_at hl 2 rfl) ?_
          refine lv_iadd hx hb dM_write_54 ?_
          refine lv_iload_n hx hb dM_write_55 rfl (lv_at hl 3 rfl) ?_
          by_cases hb8 : tp_oob ((4 * x1) + x2) 1600
          · exact nomatch ((if_pos hb8).symm.trans hr)
          replace hr := (if_neg hb8).symm.trans hr
          refine tp_asM5 S hK hP hD hS hb8 dM_write_56 (fun H locs hP hD hS => ?_)
          obtain rfl := Option.some.inj hr
          exact W.vret hx hb hrt (fun t ht _ => ⟨rfl, by rw [ht]; exact hP, hS.F ht⟩) hS.2.2 dM_write_57 hlocks
        · replace hr := (if_pos hc7).symm.trans hr
          refine lv_iconst (v := 2) hx hb dM_write_31 (by decide) ?_
          refine lv_goto (tgt := 36) hx hb dM_write_32 (by decide) ?_
          refine tp_ptM0 S hK hP hD hS tp_mM_f0 dM_write_36 (fun H locs hP hD hS => ?_)
          refine lv_aload_n hx hb dM_write_39 rfl (lv_at hl 0 rfl) ?_
          refine tp_gtM S hK hP 0 (by decide) (v := .int 2) tp_mM_f0 rfl dM_write_40 ?_
          refine lv_if_ne (tgt := 57) hx hb dM_write_43 (by decide) (fun _ => ?_) (fun z => absurd z (by decide))
          obtain rfl := Option.some.inj hr
          exact W.vret hx hb hrt (fun t ht _ => ⟨rfl, by rw [ht]; exact hP, hS.F ht⟩) hS.2.2 dM_write_57 hlocks
      · replace hr := (if_neg hc5).symm.trans hr
        refine lv_iconst (v := 1) hx hb dM_write_18 (by decide) ?_
        refine lv_goto (tgt := 36) hx hb dM_write_19 (by decide) ?_
        refine tp_ptM0 S hK hP hD hS tp_mM_f0 dM_write_36 (fun H locs hP hD hS => ?_)
        refine lv_aload_n hx hb dM_write_39 rfl (lv_at hl 0 rfl) ?_
        refine tp_gtM S hK hP 0 (by decide) (v := .int 1) tp_mM_f0 rfl dM_write_40 ?_
        refine lv_if_ne (tgt := 57) hx hb dM_write_43 (by decide) (fun _ => ?_) (fun z => absurd z (by decide))
        obtain rfl := Option.some.inj hr
        exact W.vret hx hb hrt (fun t ht _ => ⟨rfl, by rw [ht]; exact hP, hS.F ht⟩) hS.2.2 dM_write_57 hlocks
set_option maxHeartbeats 4000000 in
set_option maxRecDepth 100000 in
theorem cM_read (l : Launch) (D : va_G) (h : Nat) (a : Nat → Nat) (cI cZ : ClassId) (sz : Nat) (σ : tp_St) (x1 : Int32) (x2 : Int32) (r : (Int32 × tp_St)) (hr : fM_read σ x1 x2 = some r) : Met l tp_yM_read (tp_wsT tp_yM_read tp_bM_read 3 (some .int)) { frames := 1, cells := 0, slots := 0, locals := 21 } (tp_PcW D [(cI, .int), (cZ, .boolean)] (tp_wM h a cI cZ σ) sz [.ref h, .int x1, .int x2]) (tp_qW (some (.int r.1)) D (tp_wM h a cI cZ r.2) (va_A (tp_wM h a cI cZ σ) sz)) 0 0 (va_A (tp_wM h a cI cZ σ) sz) := by
  refine Met.ofW (cc := tp_bM_read) (maxL := 3) (ret := (some .int)) (by decide) rfl ?_
  intro p e s m args below meth c s₁ B hml hv
  obtain ⟨rfl, hsz, hP, hK, hD0⟩ := hv
  have hx := B.exec
  have hb := B.bytes
  have hrt := B.returns
  have hTB : ∀ w ∈ tp_TB, w.before _ s = true := fun w z => atoms_spec (ws := (tp_wsT tp_yM_read tp_bM_read 3 (some .int))) B.pre w (List.mem_cons_of_mem _ z)
  have hown : s.vm.findClass tp_RM = some m.cls := findClass_of_methodNamed B.named
  have hlocks := B.notSynchronized
  have S : CallFix p m c tp_bM_read 3 s _ tp_TB tp_RM := ⟨hx, hb, hml, hown, hTB⟩
  subst hsz
  have hD : va_D (va_A (tp_wM h a cI cZ σ) s.heap.size) (tp_wM h a cI cZ σ) := hD0.self
  have hA : ∀ q : Nat, s.heap.size ≤ q → va_A (tp_wM h a cI cZ σ) s.heap.size q := fun q z => Or.inr z
  have hS : va_S (va_A (tp_wM h a cI cZ σ) s.heap.size) s.heap s.heap [] := va_S.rf
  have hl := lv_entry ([.ref h, .int x1, .int x2]) (n := 3) (Nat.le_of_ble_eq_true rfl)
  rw [lg_entry_eq]
  generalize (lg_sl ([.ref h, .int x1, .int x2]) ++ List.replicate (3 - (lg_sl ([.ref h, .int x1, .int x2])).length) Slot.unset).toArray = ls at hl ⊢
  have hl : lv_has ls 3 [(0, .ref h), (1, .int x1), (2, .int x2)] := hl
  rw [fM_read] at hr
  refine lv_aload_n hx hb dM_read_0 rfl (lv_at hl 0 rfl) ?_
  refine lv_aload_n hx hb dM_read_1 rfl (lv_at hl 0 rfl) ?_
  refine lv_iload_n hx hb dM_read_2 rfl (lv_at hl 1 rfl) ?_
  obtain ⟨q1, hq2, hr⟩ := Option.bind_eq_some_iff.mp hr
  refine tp_kP (rest := [.ref h]) S hK hP hD rfl rfl (cM_isChunk l D h a cI cZ _ σ x1 q1 hq2) (cwV 1 hTB tp_gM_isChunk rfl rfl rfl ⟨rfl, by decide, by decide, by decide +kernel⟩ ⟨Nat.le_of_ble_eq_true rfl, Nat.le_of_ble_eq_true rfl⟩) rfl hl.1 rfl (Nat.le_of_ble_eq_true rfl) dM_read_3 ⟨Nat.zero_le _, Nat.zero_le _⟩ ?_
  refine lv_if_eq (tgt := 18) hx hb dM_read_6 (by decide) (fun hc3 => ?_) (fun hc3 => ?_)
  · replace hr := (if_pos hc3).symm.trans hr
    refine lv_iconst (v := 1) hx hb dM_read_18 (by decide) ?_
    refine lv_goto (tgt := 36) hx hb dM_read_19 (by decide) ?_
    refine tp_ptM0 S hK hP hD hS tp_mM_f0 dM_read_36 (fun H locs hP hD hS => ?_)
    refine lv_aload_n hx hb dM_read_39 rfl (lv_at hl 0 rfl) ?_
    refine tp_gtM S hK hP 0 (by decide) (v := .int 1) tp_mM_f0 rfl dM_read_40 ?_
    refine lv_if_le (tgt := 50) hx hb dM_read_43 (by decide) (fun z => absurd z (by decide)) (fun _ => ?_)
    refine lv_iconst (v := 0) hx hb dM_read_46 (by decide) ?_
    refine lv_goto (tgt := 60) hx hb dM_read_47 (by decide) ?_
    obtain rfl := Option.some.inj hr
    exact W.iret (v := 0) hx hb hrt (fun t ht _ => ⟨rfl, by rw [ht]; exact hP, hS.F ht⟩) hS.2.2 dM_read_60 hlocks
  · replace hr := (if_neg hc3).symm.trans hr
    refine lv_iload_n hx hb dM_read_9 rfl (lv_at hl 2 rfl) ?_
    refine lv_if_lt (tgt := 18) hx hb dM_read_10 (by decide) (fun hc4 => ?_) (fun hc4 => ?_)
    · replace hr := (if_pos hc4).symm.trans hr
      refine lv_iconst (v := 1) hx hb dM_read_18 (by decide) ?_
      refine lv_goto (tgt := 36) hx hb dM_read_19 (by decide) ?_
      refine tp_ptM0 S hK hP hD hS tp_mM_f0 dM_read_36 (fun H locs hP hD hS => ?_)
      refine lv_aload_n hx hb dM_read_39 rfl (lv_at hl 0 rfl) ?_
      refine tp_gtM S hK hP 0 (by decide) (v := .int 1) tp_mM_f0 rfl dM_read_40 ?_
      refine lv_if_le (tgt := 50) hx hb dM_read_43 (by decide) (fun z => absurd z (by decide)) (fun _ => ?_)
      refine lv_iconst (v := 0) hx hb dM_read_46 (by decide) ?_
      refine lv_goto (tgt := 60) hx hb dM_read_47 (by decide) ?_
      obtain rfl := Option.some.inj hr
      exact W.iret (v := 0) hx hb hrt (fun t ht _ => ⟨rfl, by rw [ht]; exact hP, hS.F ht⟩) hS.2.2 dM_read_60 hlocks
    · replace hr := (if_neg hc4).symm.trans hr
      refine lv_iload_n hx hb dM_read_13 rfl (lv_at hl 2 rfl) ?_
      refine lv_iconst (v := 3) hx hb dM_read_14 (by decide) ?_
      refine lv_icmp_le (tgt := 22) hx hb dM_read_15 (by decide) (fun hc5 => ?_) (fun hc5 => ?_)
      · replace hr := (if_pos hc5).symm.trans hr
        refine lv_aload_n hx hb dM_read_22 rfl (lv_at hl 0 rfl) ?_
        refine tp_gtM S hK hP 4 (by decide) (v := .ref (a 4)) tp_mM_f4 rfl dM_read_23 ?_
        refine lv_iload_n hx hb dM_read_26 rfl (lv_at hl 1 rfl) ?_
        by_cases hb6 : tp_oob x1 400
        · exact nomatch ((if_pos hb6).symm.trans hr)
        replace hr := (if_neg hb6).symm.trans hr
        refine va_iald hx hb hK hP 4 0 rfl rfl hb6 dM_read_27 ?_
        refine lv_if_ne (tgt := 35) hx hb dM_read_28 (by decide) (fun hc7 => ?_) (fun hc7 => ?_)
        · replace hr := (if_neg hc7).symm.trans hr
          refine lv_iconst (v := 0) hx hb dM_read_35 (by decide) ?_
          refine tp_ptM0 S hK hP hD hS tp_mM_f0 dM_read_36 (fun H locs hP hD hS => ?_)
          refine lv_aload_n hx hb dM_read_39 rfl (lv_at hl 0 rfl) ?_
          refine tp_gtM S hK hP 0 (by decide) (v := .int 0) tp_mM_f0 rfl dM_read_40 ?_
          refine lv_if_le (tgt := 50) hx hb dM_read_43 (by decide) (fun _ => ?_) (fun z => absurd (by decide) z)
          refine lv_aload_n hx hb dM_read_50 rfl (lv_at hl 0 rfl) ?_
          refine tp_gtM S hK hP 5 (by decide) (v := .ref (a 5)) tp_mM_f5 rfl dM_read_51 ?_
          refine lv_iconst (v := 4) hx hb dM_read_54 (by decide) ?_
          refine lv_iload_n hx hb dM_read_55 rfl (lv_at hl 1 rfl) ?_
          refine lv_imul hx hb dM_read_56 ?_
          refine lv_iload_n hx hb dM_read_57 rfl (lv_at hl 2 rfl) ?_
          refine lv_iadd hx hb dM_read_58 ?_
          by_cases hb8 : tp_oob ((4 * x1) + x2) 1600
          · exact nomatch ((if_pos hb8).symm.trans hr)
          replace hr := (if_neg hb8).symm.trans hr
          refine va_iald hx hb hK hP 5 0 rfl rfl hb8 dM_read_59 ?_
          obtain rfl := Option.some.inj hr
          exact W.iret (v := ((tp_up σ 0 0 0) 5 ((4 * x1) + x2).toNatClampNeg)) hx hb hrt (fun t ht _ => ⟨rfl, by rw [ht]; exact hP, hS.F ht⟩) hS.2.2 dM_read_60 hlocks
        · replace hr := (if_pos hc7).symm.trans hr
          refine lv_iconst (v := 2) hx hb dM_read_31 (by decide) ?_
          refine lv_goto (tgt := 36) hx hb dM_read_32 (by decide) ?_
          refine tp_ptM0 S hK hP hD hS tp_mM_f0 dM_read_36 (fun H locs hP hD hS => ?_)
          refine lv_aload_n hx hb dM_read_39 rfl (lv_at hl 0 rfl) ?_
          refine tp_gtM S hK hP 0 (by decide) (v := .int 2) tp_mM_f0 rfl dM_read_40 ?_
          refine lv_if_le (tgt := 50) hx hb dM_read_43 (by decide) (fun z => absurd z (by decide)) (fun _ => ?_)
          refine lv_iconst (v := 0) hx hb dM_read_46 (by decide) ?_
          refine lv_goto (tgt := 60) hx hb dM_read_47 (by decide) ?_
          obtain rfl := Option.some.inj hr
          exact W.iret (v := 0) hx hb hrt (fun t ht _ => ⟨rfl, by rw [ht]; exact hP, hS.F ht⟩) hS.2.2 dM_read_60 hlocks
      · replace hr := (if_neg hc5).symm.trans hr
        refine lv_iconst (v := 1) hx hb dM_read_18 (by decide) ?_
        refine lv_goto (tgt := 36) hx hb dM_read_19 (by decide) ?_
        refine tp_ptM0 S hK hP hD hS tp_mM_f0 dM_read_36 (fun H locs hP hD hS => ?_)
        refine lv_aload_n hx hb dM_read_39 rfl (lv_at hl 0 rfl) ?_
        refine tp_gtM S hK hP 0 (by decide) (v := .int 1) tp_mM_f0 rfl dM_read_40 ?_
        refine lv_if_le (tgt := 50) hx hb dM_read_43 (by decide) (fun z => absurd z (by decide)) (fun _ => ?_)
        refine lv_iconst (v := 0) hx hb dM_read_46 (by decide) ?_
        refine lv_goto (tgt := 60) hx hb dM_read_47 (by decide) ?_
        obtain rfl := Option.some.inj hr
        exact W.iret (v := 0) hx hb hrt (fun t ht _ => ⟨rfl, by rw [ht]; exact hP, hS.F ht⟩) hS.2.2 dM_read_60 hlocks
