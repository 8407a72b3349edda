set_option maxHeartbeats 4000000 in
set_option maxRecDepth 100000 in
theorem cC_capacityWithout (l : Launch) (D : va_G) (h : Nat) (a : Nat → Nat) (cI cZ : ClassId) (sz : Nat) (σ : tp_St) (x1 : Int32) (r : Int32) (hr : fC_capacityWithout σ x1 = some r) : Met l tp_yC_capacityWithout (tp_wsT tp_yC_capacityWithout tp_bC_capacityWithout 5 (some .int)) { frames := 2, cells := 0, slots := 0, locals := 42 } (tp_PcW D [(cI, .int), (cZ, .boolean)] (tp_wC h a cI cZ σ) sz [.ref h, .int x1]) (tp_qI r) 0 0 tp_noF := by
  refine Met.ofW (cc := tp_bC_capacityWithout) (maxL := 5) (ret := (some .int)) (by decide) rfl ?_
  intro p e s m args below meth c s₁ B hml hv
  obtain ⟨rfl, hsz, hP, hK, hD0⟩ := hv
  have hx := B.exec
  have hb := B.bytes
  have hrt := B.returns
  have hTB : ∀ w ∈ tp_TB, w.before _ s = true := fun w z => atoms_spec (ws := (tp_wsT tp_yC_capacityWithout tp_bC_capacityWithout 5 (some .int))) B.pre w (List.mem_cons_of_mem _ z)
  have hown : s.vm.findClass tp_RC = some m.cls := findClass_of_methodNamed B.named
  have hlocks := B.notSynchronized
  have S : CallFix p m c tp_bC_capacityWithout 5 s _ tp_TB tp_RC := ⟨hx, hb, hml, hown, hTB⟩
  subst hsz
  have hD : va_D (va_A (tp_wC h a cI cZ σ) s.heap.size) (tp_wC h a cI cZ σ) := hD0.self
  have hl := lv_entry ([.ref h, .int x1]) (n := 5) (Nat.le_of_ble_eq_true rfl)
  rw [lg_entry_eq]
  generalize (lg_sl ([.ref h, .int x1]) ++ List.replicate (5 - (lg_sl ([.ref h, .int x1])).length) Slot.unset).toArray = ls at hl ⊢
  have hl : lv_has ls 5 [(0, .ref h), (1, .int x1)] := hl
  rw [fC_capacityWithout] at hr
  refine lv_iconst (v := 0) hx hb dC_capacityWithout_0 (by decide) ?_
  refine lv_istore_n hx hb dC_capacityWithout_1 rfl hl (by decide) rfl (fun ls hl => ?_)
  have hl : lv_has ls 5 [(2, .int 0), (0, .ref h), (1, .int x1)] := hl
  refine lv_iconst (v := 0) hx hb dC_capacityWithout_2 (by decide) ?_
  refine lv_istore_n hx hb dC_capacityWithout_3 rfl hl (by decide) rfl (fun ls hl => ?_)
  have hl : lv_has ls 5 [(3, .int 0), (2, .int 0), (0, .ref h), (1, .int x1)] := hl
  refine lv_iconst (v := 0) hx hb dC_capacityWithout_4 (by decide) ?_
  refine lv_istore hx hb dC_capacityWithout_5 hl (by decide) rfl (fun ls hl => ?_)
  have hl : lv_has ls 5 [(4, .int 0), (3, .int 0), (2, .int 0), (0, .ref h), (1, .int x1)] := hl
  have loop7 : ∀ (n7 : Nat) (x2 : Int32) (x3 : Int32) (x4 : Int32) (ls : Array Slot), fC_capacityWithout_L7 σ x1 n7 x2 x3 x4 = some r → lv_has ls 5 [(0, .ref h), (1, .int x1), (2, .int x2), (3, .int x3), (4, .int x4)] → W p l e { frames := 2, cells := 0, slots := 0, locals := 42 } s m (([.ref h, .int x1] : List Value).toArray) below meth c s.heap [] 0 0 (MQ below (tp_qI r) (([.ref h, .int x1] : List Value).toArray) s 0 0 tp_noF) (F0 m 7 ls []) := by
    intro n7
    induction n7 with
    | zero => intro x2 x3 x4 ls hr hl; exact nomatch (show (none : Option Int32) = some r from hr)
    | succ n7 ih7 =>
      intro x2 x3 x4 ls hr hl
      rw [fC_capacityWithout_L7] at hr
      refine lv_iload hx hb dC_capacityWithout_7 (lv_at hl 4 rfl) ?_
      refine lv_bipush (v := 12) hx hb dC_capacityWithout_9 (by decide) ?_
      refine lv_icmp_ge (tgt := 57) hx hb dC_capacityWithout_11 (by decide) (fun hc1 => ?_) (fun hc1 => ?_)
      · replace hr := (if_pos hc1).symm.trans hr
        refine lv_iload_n hx hb dC_capacityWithout_57 rfl (lv_at hl 2 rfl) ?_
        refine lv_iconst (v := 2) hx hb dC_capacityWithout_58 (by decide) ?_
        refine lv_idiv hx hb dC_capacityWithout_59 (by decide) ?_
        refine lv_iload_n hx hb dC_capacityWithout_60 rfl (lv_at hl 2 rfl) ?_
        refine lv_iload_n hx hb dC_capacityWithout_61 rfl (lv_at hl 3 rfl) ?_
        refine lv_isub hx hb dC_capacityWithout_62 ?_
        refine va_mmin hx hb (hml.trans hl.1.symm) hown (hTB _ tp_mM_min_C) (hTB _ tp_mM_min_st) (hTB _ tp_mM_ini) (hTB _ tp_mM_min_code) (Nat.le_of_ble_eq_true rfl) (Nat.le_of_ble_eq_true rfl) (Nat.zero_le _) (Nat.zero_le _) dC_capacityWithout_63 ?_
        obtain rfl := Option.some.inj hr
        exact W.iret (v := (if (x2 - x3) < (x2 / 2) then (x2 - x3) else (x2 / 2))) hx hb hrt (fun t ht _ => ⟨rfl, ht⟩) (fun _ z => nomatch z) dC_capacityWithout_66 hlocks
      · replace hr := (if_neg hc1).symm.trans hr
        refine lv_iload hx hb dC_capacityWithout_14 (lv_at hl 4 rfl) ?_
        refine lv_iload_n hx hb dC_capacityWithout_16 rfl (lv_at hl 1 rfl) ?_
        refine lv_icmp_eq (tgt := 51) hx hb dC_capacityWithout_17 (by decide) (fun hc2 => ?_) (fun hc2 => ?_)
        · replace hr := (if_pos hc2).symm.trans hr
          refine lv_iinc (k := 4) (v := (x4 + 1)) hx hb dC_capacityWithout_51 hl rfl (tp_ii1 _) (by decide) rfl (fun ls hl => ?_)
          have hl : lv_has ls 5 [(4, .int (x4 + 1)), (0, .ref h), (1, .int x1), (2, .int x2), (3, .int x3)] := hl
          refine lv_goto (tgt := 7) hx hb dC_capacityWithout_54 (by decide) ?_
          exact ih7 x2 x3 (x4 + 1) ls hr (lv_sub hl [1, 2, 3, 4, 0] rfl)
        · replace hr := (if_neg hc2).symm.trans hr
          refine lv_aload_n hx hb dC_capacityWithout_20 rfl (lv_at hl 0 rfl) ?_
          refine lv_iload hx hb dC_capacityWithout_21 (lv_at hl 4 rfl) ?_
          obtain ⟨q3, hq4, hr⟩ := Option.bind_eq_some_iff.mp hr
          refine tp_kP (rest := []) S hK hP hD rfl rfl (cC_stays l D h a cI cZ _ σ x4 q3 hq4) (cwV 1 hTB tp_gC_stays rfl rfl rfl ⟨rfl, by decide, by decide, by decide +kernel⟩ ⟨Nat.le_of_ble_eq_true rfl, Nat.le_of_ble_eq_true rfl⟩) rfl hl.1 rfl (Nat.le_of_ble_eq_true rfl) dC_capacityWithout_23 ⟨Nat.zero_le _, Nat.zero_le _⟩ ?_
          refine lv_if_eq (tgt := 51) hx hb dC_capacityWithout_26 (by decide) (fun hc5 => ?_) (fun hc5 => ?_)
          · replace hr := (if_pos hc5).symm.trans hr
            refine lv_iinc (k := 4) (v := (x4 + 1)) hx hb dC_capacityWithout_51 hl rfl (tp_ii1 _) (by decide) rfl (fun ls hl => ?_)
            have hl : lv_has ls 5 [(4, .int (x4 + 1)), (0, .ref h), (1, .int x1), (2, .int x2), (3, .int x3)] := hl
            refine lv_goto (tgt := 7) hx hb dC_capacityWithout_54 (by decide) ?_
            exact ih7 x2 x3 (x4 + 1) ls hr (lv_sub hl [1, 2, 3, 4, 0] rfl)
          · replace hr := (if_neg hc5).symm.trans hr
            refine lv_iload_n hx hb dC_capacityWithout_29 rfl (lv_at hl 2 rfl) ?_
            refine lv_aload_n hx hb dC_capacityWithout_30 rfl (lv_at hl 0 rfl) ?_
            refine tp_gtC S hK hP 0 (by decide) (v := .ref (a 0)) tp_mC_f0 rfl dC_capacityWithout_31 ?_
            refine lv_iload hx hb dC_capacityWithout_34 (lv_at hl 4 rfl) ?_
            by_cases hb6 : tp_oob x4 12
            · exact nomatch ((if_pos hb6).symm.trans hr)
            replace hr := (if_neg hb6).symm.trans hr
            refine va_iald hx hb hK hP 1 0 rfl rfl hb6 dC_capacityWithout_36 ?_
            refine lv_iadd hx hb dC_capacityWithout_37 ?_
            refine lv_istore_n hx hb dC_capacityWithout_38 rfl hl (by decide) rfl (fun ls hl => ?_)
            have hl : lv_has ls 5 [(2, .int (x2 + (σ 0 x4.toNatClampNeg))), (0, .ref h), (1, .int x1), (3, .int x3), (4, .int x4)] := hl
            refine lv_iload_n hx hb dC_capacityWithout_39 rfl (lv_at hl 3 rfl) ?_
            refine lv_aload_n hx hb dC_capacityWithout_40 rfl (lv_at hl 1 rfl) ?_
            refine tp_gtC S hK hP 0 (by decide) (v := .ref (a 0)) tp_mC_f0 rfl dC_capacityWithout_41 ?_
            refine lv_iload hx hb dC_capacityWithout_44 (lv_at hl 4 rfl) ?_
            refine va_iald hx hb hK hP 1 0 rfl rfl hb6 dC_capacityWithout_46 ?_
            refine va_mmax hx hb (hml.trans hl.1.symm) hown (hTB _ tp_mM_max_C) (hTB _ tp_mM_max_st) (hTB _ tp_mM_ini) (hTB _ tp_mM_max_code) (Nat.le_of_ble_eq_true rfl) (Nat.le_of_ble_eq_true rfl) (Nat.zero_le _) (Nat.zero_le _) dC_capacityWithout_47 ?_
            refine lv_istore_n hx hb dC_capacityWithout_50 rfl hl (by decide) rfl (fun ls hl => ?_)
            have hl : lv_has ls 5 [(3, .int (if x3 < (σ 0 x4.toNatClampNeg) then (σ 0 x4.toNatClampNeg) else x3)), (2, .int (x2 + (σ 0 x4.toNatClampNeg))), (0, .ref h), (1, .int x1), (4, .int x4)] := hl
            refine lv_iinc (k := 4) (v := (x4 + 1)) hx hb dC_capacityWithout_51 hl rfl (tp_ii1 _) (by decide) rfl (fun ls hl => ?_)
            have hl : lv_has ls 5 [(4, .int (x4 + 1)), (3, .int (if x3 < (σ 0 x4.toNatClampNeg) then (σ 0 x4.toNatClampNeg) else x3)), (2, .int (x2 + (σ 0 x4.toNatClampNeg))), (0, .ref h), (1, .int x1)] := hl
            refine lv_goto (tgt := 7) hx hb dC_capacityWithout_54 (by decide) ?_
            exact ih7 (x2 + (σ 0 x4.toNatClampNeg)) (if x3 < (σ 0 x4.toNatClampNeg) then (σ 0 x4.toNatClampNeg) else x3) (x4 + 1) ls hr (lv_sub hl [3, 4, 2, 1, 0] rfl)
  exact loop7 13 0 0 0 ls hr (lv_sub hl [3, 4, 2, 1, 0] rfl)
set_option maxHeartbeats 4000000 in
set_option maxRecDepth 100000 in
theorem cC_leave (l : Launch) (hl0 : l.stackTraces = false) (D : va_G) (h : Nat) (a : Nat → Nat) (cI cZ : ClassId) (sz : Nat) (σ : tp_St) (x1 : Int32) (r : (Nat × Int32 × tp_St)) (hr : fC_leave σ x1 = some r) : vx_Met l tp_yC_leave (tp_wsT tp_yC_leave tp_bC_leave 3 (some .int)) { frames := 6, cells := 1, slots := 6, locals := 89 } (tp_PcX D [(cI, .int), (cZ, .boolean)] (tp_wC h a cI cZ σ) sz [.ref h, .int x1]) (tp_qTC D h a cI cZ r (va_A (tp_wC h a cI cZ σ) sz)) (tp_qXC [1, 2, 4] D h a cI cZ r (va_A (tp_wC h a cI cZ σ) sz)) 1 6 (va_A (tp_wC h a cI cZ σ) sz) := by
  refine vx_ofW (cc := tp_bC_leave) (maxL := 3) (ret := (some .int)) (by decide) rfl ?_
  intro p e s m args below meth c s₁ B hml hnoh0 hv
  obtain ⟨rfl, hsz, hP, hK, hD0, hX⟩ := hv
  have hnoh : ∀ (x : ExceptionTableEntry), x ∈ c.exceptionTable.toList → False := hnoh0
  have hx := B.exec
  have hb := B.bytes
  have hrt := B.returns
  have hTB : ∀ w ∈ tp_TB, w.before _ s = true := fun w z => atoms_spec (ws := (tp_wsT tp_yC_leave tp_bC_leave 3 (some .int))) B.pre w (List.mem_cons_of_mem _ z)
  have hown : s.vm.findClass tp_RC = some m.cls := findClass_of_methodNamed B.named
  have hlocks := B.notSynchronized
  have S : CallFix p m c tp_bC_leave 3 s _ tp_TB tp_RC := ⟨hx, hb, hml, hown, hTB⟩
  subst hsz
  have hD : va_D (va_A (tp_wC h a cI cZ σ) s.heap.size) (tp_wC h a cI cZ σ) := hD0.self
  have hA : ∀ q : Nat, s.heap.size ≤ q → va_A (tp_wC h a cI cZ σ) s.heap.size q := fun q z => Or.inr z
  have hS : va_S (va_A (tp_wC h a cI cZ σ) s.heap.size) s.heap s.heap [] := va_S.rf
  have hl := lv_entry ([.ref h, .int x1]) (n := 3) (Nat.le_of_ble_eq_true rfl)
  rw [lg_entry_eq]
  generalize (lg_sl ([.ref h, .int x1]) ++ List.replicate (3 - (lg_sl ([.ref h, .int x1])).length) Slot.unset).toArray = ls at hl ⊢
  have hl : lv_has ls 3 [(0, .ref h), (1, .int x1)] := hl
  rw [fC_leave] at hr
  refine lv_aload_n hx hb dC_leave_0 rfl (lv_at hl 0 rfl) ?_
  refine lv_iload_n hx hb dC_leave_1 rfl (lv_at hl 1 rfl) ?_
  obtain ⟨q1, hq2, hr⟩ := Option.bind_eq_some_iff.mp hr
  refine tp_kP (rest := []) S hK hP hD rfl rfl (cC_isThere l D h a cI cZ _ σ x1 q1 hq2) (cwV 1 hTB tp_gC_isThere rfl rfl rfl ⟨rfl, by decide, by decide, by decide +kernel⟩ ⟨Nat.le_of_ble_eq_true rfl, Nat.le_of_ble_eq_true rfl⟩) rfl hl.1 rfl (Nat.le_of_ble_eq_true rfl) dC_leave_2 ⟨Nat.zero_le _, Nat.zero_le _⟩ ?_
  refine lv_if_ne (tgt := 16) hx hb dC_leave_5 (by decide) (fun hc3 => ?_) (fun hc3 => ?_)
  · replace hr := (if_neg hc3).symm.trans hr
    refine lv_aload_n hx hb dC_leave_16 rfl (lv_at hl 0 rfl) ?_
    refine tp_gtC S hK hP 2 (by decide) (v := .ref (a 2)) tp_mC_f2 rfl dC_leave_17 ?_
    refine lv_iload_n hx hb dC_leave_20 rfl (lv_at hl 1 rfl) ?_
    by_cases hb4 : tp_oob x1 12
    · exact nomatch ((if_pos hb4).symm.trans hr)
    replace hr := (if_neg hb4).symm.trans hr
    refine va_zald hx hb hK hP 3 1 rfl rfl hb4 dC_leave_21 ?_
    refine lv_if_ne (tgt := 37) hx hb dC_leave_22 (by decide) (fun hc5 => ?_) (fun hc5 => ?_)
    · replace hr := (if_neg hc5).symm.trans hr
      obtain rfl := Option.some.inj hr
      exact tp_thrC (k := 2) hx hb hl0 hown (by decide) tp_xC_2 hTB hX hS hP (hl.1.trans hml.symm) dC_leave_37 dC_leave_40 dC_leave_41 dC_leave_44 hnoh (Nat.le_of_ble_eq_true rfl) (Nat.le_of_ble_eq_true rfl) (Nat.le_of_ble_eq_true rfl) (Nat.le_of_ble_eq_true rfl) hlocks
    · replace hr := (if_pos hc5).symm.trans hr
      refine lv_aload_n hx hb dC_leave_25 rfl (lv_at hl 0 rfl) ?_
      refine lv_iconst (v := 2) hx hb dC_leave_26 (by decide) ?_
      obtain ⟨q6, hq7, hr⟩ := Option.bind_eq_some_iff.mp hr
      refine tp_kP (rest := []) S hK hP hD rfl rfl (cC_chunksWith l D h a cI cZ _ σ 2 q6 hq7) (cwV 1 hTB tp_gC_chunksWith rfl rfl rfl ⟨rfl, by decide, by decide, by decide +kernel⟩ ⟨Nat.le_of_ble_eq_true rfl, Nat.le_of_ble_eq_true rfl⟩) rfl hl.1 rfl (Nat.le_of_ble_eq_true rfl) dC_leave_27 ⟨Nat.zero_le _, Nat.zero_le _⟩ ?_
      refine lv_aload_n hx hb dC_leave_30 rfl (lv_at hl 0 rfl) ?_
      obtain ⟨q8, hq9, hr⟩ := Option.bind_eq_some_iff.mp hr
      refine tp_kP (rest := [.int q6]) S hK hP hD rfl rfl (cC_allChunks l D h a cI cZ _ σ  q8 hq9) (cwV 0 hTB tp_gC_allChunks rfl rfl rfl ⟨rfl, by decide, by decide, by decide +kernel⟩ ⟨Nat.le_of_ble_eq_true rfl, Nat.le_of_ble_eq_true rfl⟩) rfl hl.1 rfl (Nat.le_of_ble_eq_true rfl) dC_leave_31 ⟨Nat.zero_le _, Nat.zero_le _⟩ ?_
      refine lv_icmp_ge (tgt := 45) hx hb dC_leave_34 (by decide) (fun hc10 => ?_) (fun hc10 => ?_)
      · replace hr := (if_pos hc10).symm.trans hr
        refine lv_aload_n hx hb dC_leave_45 rfl (lv_at hl 0 rfl) ?_
        obtain ⟨q11, hq12, hr⟩ := Option.bind_eq_some_iff.mp hr
        refine tp_kP (rest := []) S hK hP hD rfl rfl (cC_allChunks l D h a cI cZ _ σ  q11 hq12) (cwV 0 hTB tp_gC_allChunks rfl rfl rfl ⟨rfl, by decide, by decide, by decide +kernel⟩ ⟨Nat.le_of_ble_eq_true rfl, Nat.le_of_ble_eq_true rfl⟩) rfl hl.1 rfl (Nat.le_of_ble_eq_true rfl) dC_leave_46 ⟨Nat.zero_le _, Nat.zero_le _⟩ ?_
        refine lv_aload_n hx hb dC_leave_49 rfl (lv_at hl 0 rfl) ?_
        refine lv_iload_n hx hb dC_leave_50 rfl (lv_at hl 1 rfl) ?_
        obtain ⟨q13, hq14, hr⟩ := Option.bind_eq_some_iff.mp hr
        refine tp_kP (rest := [.int q11]) S hK hP hD rfl rfl (cC_capacityWithout l D h a cI cZ _ σ x1 q13 hq14) (cwV 1 hTB tp_gC_capacityWithout rfl rfl rfl ⟨rfl, by decide, by decide, by decide +kernel⟩ ⟨Nat.le_of_ble_eq_true rfl, Nat.le_of_ble_eq_true rfl⟩) rfl hl.1 rfl (Nat.le_of_ble_eq_true rfl) dC_leave_51 ⟨Nat.zero_le _, Nat.zero_le _⟩ ?_
        refine lv_icmp_le (tgt := 65) hx hb dC_leave_54 (by decide) (fun hc15 => ?_) (fun hc15 => ?_)
        · replace hr := (if_pos hc15).symm.trans hr
          refine lv_aload_n hx hb dC_leave_65 rfl (lv_at hl 0 rfl) ?_
          refine tp_gtC S hK hP 2 (by decide) (v := .ref (a 2)) tp_mC_f2 rfl dC_leave_66 ?_
          refine lv_iload_n hx hb dC_leave_69 rfl (lv_at hl 1 rfl) ?_
          refine lv_iconst (v := 1) hx hb dC_leave_70 (by decide) ?_
          refine tp_asC2 S hK hP hD hS hb4 dC_leave_71 (fun H locs hP hD hS => ?_)
          refine lv_aload_n hx hb dC_leave_72 rfl (lv_at hl 0 rfl) ?_
          refine tp_gtC S hK hP 1 (by decide) (v := .ref (a 1)) tp_mC_f1 rfl dC_leave_73 ?_
          refine lv_iload_n hx hb dC_leave_76 rfl (lv_at hl 1 rfl) ?_
          refine va_iald hx hb hK hP 2 0 rfl rfl hb4 dC_leave_77 ?_
          refine lv_istore_n hx hb dC_leave_78 rfl hl (by decide) rfl (fun ls hl => ?_)
          have hl : lv_has ls 3 [(2, .int ((tp_up σ 2 x1.toNatClampNeg (vp_nar .boolean 1)) 1 x1.toNatClampNeg)), (0, .ref h), (1, .int x1)] := hl
          refine lv_aload_n hx hb dC_leave_79 rfl (lv_at hl 1 rfl) ?_
          refine lv_iload_n hx hb dC_leave_80 rfl (lv_at hl 2 rfl) ?_
          obtain ⟨q16, hq17, hr⟩ := Option.bind_eq_some_iff.mp hr
          refine tp_kP (rest := []) S hK hP hD rfl rfl (cC_hasLeft l D h a cI cZ _ (tp_up σ 2 x1.toNatClampNeg (vp_nar .boolean 1)) x1 q16 hq17) (cwV 1 hTB tp_gC_hasLeft rfl rfl rfl ⟨rfl, by decide, by decide, by decide +kernel⟩ ⟨Nat.le_of_ble_eq_true rfl, Nat.le_of_ble_eq_true rfl⟩) rfl hl.1 rfl (Nat.le_of_ble_eq_true rfl) dC_leave_81 ⟨Nat.zero_le _, Nat.zero_le _⟩ ?_
          refine lv_if_eq (tgt := 92) hx hb dC_leave_84 (by decide) (fun hc18 => ?_) (fun hc18 => ?_)
          · replace hr := (if_pos hc18).symm.trans hr
            refine lv_iload_n hx hb dC_leave_92 rfl (lv_at hl 0 rfl) ?_
            obtain rfl := Option.some.inj hr
            refine vx_ret (W.widen (k := 1) (n := 6) (Nat.zero_le _) (Nat.zero_le _) ?_)
            exact W.iret (v := ((tp_up σ 2 x1.toNatClampNeg (vp_nar .boolean 1)) 1 x1.toNatClampNeg)) hx hb hrt (fun t ht _ => ⟨⟨((tp_up σ 2 x1.toNatClampNeg (vp_nar .boolean 1)) 1 x1.toNatClampNeg), (tp_up σ 2 x1.toNatClampNeg (vp_nar .boolean 1)), rfl, rfl, by show va_P D tp_CL _ t.heap; rw [ht]; exact hP⟩, hS.F ht⟩) hS.2.2 dC_leave_93 hlocks
          · replace hr := (if_neg hc18).symm.trans hr
            refine lv_aload_n hx hb dC_leave_87 rfl (lv_at hl 1 rfl) ?_
            refine lv_iload_n hx hb dC_leave_88 rfl (lv_at hl 2 rfl) ?_
            obtain ⟨q19, hq20, hr⟩ := Option.bind_eq_some_iff.mp hr
            refine tp_kV (rest := []) S hK hP hD hS hA rfl rfl (cC_takeAway l D h a cI cZ _ (tp_up σ 2 x1.toNatClampNeg (vp_nar .boolean 1)) x1 q19 hq20) (cwV 1 hTB tp_gC_takeAway rfl rfl rfl ⟨rfl, by decide, by decide, by decide +kernel⟩ ⟨Nat.le_of_ble_eq_true rfl, Nat.le_of_ble_eq_true rfl⟩) rfl hl.1 rfl (Nat.le_of_ble_eq_true rfl) dC_leave_89 ⟨Nat.zero_le _, Nat.zero_le _⟩ (fun H locs hP hS => ?_)
            have hP : va_P D tp_CL (tp_wC h a cI cZ q19) H := hP
            have hD : va_D (va_A (tp_wC h a cI cZ σ) s.heap.size) (tp_wC h a cI cZ q19) := tp_dre hD tp_wC_fst
            refine lv_iload_n hx hb dC_leave_92 rfl (lv_at hl 0 rfl) ?_
            obtain rfl := Option.some.inj hr
            refine vx_ret (W.widen (k := 1) (n := 6) (Nat.zero_le _) (Nat.zero_le _) ?_)
            exact W.iret (v := ((tp_up σ 2 x1.toNatClampNeg (vp_nar .boolean 1)) 1 x1.toNatClampNeg)) hx hb hrt (fun t ht _ => ⟨⟨((tp_up σ 2 x1.toNatClampNeg (vp_nar .boolean 1)) 1 x1.toNatClampNeg), q19, rfl, rfl, by show va_P D tp_CL _ t.heap; rw [ht]; exact hP⟩, hS.F ht⟩) hS.2.2 dC_leave_93 hlocks
        · replace hr := (if_neg hc15).symm.trans hr
          obtain rfl := Option.some.inj hr
          exact tp_thrC (k := 4) hx hb hl0 hown (by decide) tp_xC_4 hTB hX hS hP (hl.1.trans hml.symm) dC_leave_57 dC_leave_60 dC_leave_61 dC_leave_64 hnoh (Nat.le_of_ble_eq_true rfl) (Nat.le_of_ble_eq_true rfl) (Nat.le_of_ble_eq_true rfl) (Nat.le_of_ble_eq_true rfl) hlocks
      · replace hr := (if_neg hc10).symm.trans hr
        obtain rfl := Option.some.inj hr
        exact tp_thrC (k := 2) hx hb hl0 hown (by decide) tp_xC_2 hTB hX hS hP (hl.1.trans hml.symm) dC_leave_37 dC_leave_40 dC_leave_41 dC_leave_44 hnoh (Nat.le_of_ble_eq_true rfl) (Nat.le_of_ble_eq_true rfl) (Nat.le_of_ble_eq_true rfl) (Nat.le_of_ble_eq_true rfl) hlocks
  · replace hr := (if_pos hc3).symm.trans hr
    obtain rfl := Option.some.inj hr
    exact tp_thrC (k := 1) hx hb hl0 hown (by decide) tp_xC_1 hTB hX hS hP (hl.1.trans hml.symm) dC_leave_8 dC_leave_11 dC_leave_12 dC_leave_15 hnoh (Nat.le_of_ble_eq_true rfl) (Nat.le_of_ble_eq_true rfl) (Nat.le_of_ble_eq_true rfl) (Nat.le_of_ble_eq_true rfl) hlocks
set_option maxHeartbeats 4000000 in
set_option maxRecDepth 100000 in
theorem cC_stay (l : Launch) (hl0 : l.stackTraces = false) (D : va_G) (h : Nat) (a : Nat → Nat) (cI cZ : ClassId) (sz : Nat) (σ : tp_St) (x1 : Int32) (r : (Nat × Int32 × tp_St)) (hr : fC_stay σ x1 = some r) : vx_Met l tp_yC_stay (tp_wsT tp_yC_stay tp_bC_stay 2 none) { frames := 6, cells := 1, slots := 6, locals := 89 } (tp_PcX D [(cI, .int), (cZ, .boolean)] (tp_wC h a cI cZ σ) sz [.ref h, .int x1]) (tp_qNC D h a cI cZ r (va_A (tp_wC h a cI cZ σ) sz)) (tp_qXC [1, 2] D h a cI cZ r (va_A (tp_wC h a cI cZ σ) sz)) 1 6 (va_A (tp_wC h a cI cZ σ) sz) := by
  refine vx_ofW (cc := tp_bC_stay) (maxL := 2) (ret := none) (by decide) rfl ?_
  intro p e s m args below meth c s₁ B hml hnoh0 hv
  obtain ⟨rfl, hsz, hP, hK, hD0, hX⟩ := hv
  have hnoh : ∀ (x : ExceptionTableEntry), x ∈ c.exceptionTable.toList → False := hnoh0
  have hx := B.exec
  have hb := B.bytes
  have hrt := B.returns
  have hTB : ∀ w ∈ tp_TB, w.before _ s = true := fun w z => atoms_spec (ws := (tp_wsT tp_yC_stay tp_bC_stay 2 none)) B.pre w (List.mem_cons_of_mem _ z)
  have hown : s.vm.findClass tp_RC = some m.cls := findClass_of_methodNamed B.named
  have hlocks := B.notSynchronized
  have S : CallFix p m c tp_bC_stay 2 s _ tp_TB tp_RC := ⟨hx, hb, hml, hown, hTB⟩
  subst hsz
  have hD : va_D (va_A (tp_wC h a cI cZ σ) s.heap.size) (tp_wC h a cI cZ σ) := hD0.self
  have hA : ∀ q : Nat, s.heap.size ≤ q → va_A (tp_wC h a cI cZ σ) s.heap.size q := fun q z => Or.inr z
  have hS : va_S (va_A (tp_wC h a cI cZ σ) s.heap.size) s.heap s.heap [] := va_S.rf
  have hl := lv_entry ([.ref h, .int x1]) (n := 2) (Nat.le_of_ble_eq_true rfl)
  rw [lg_entry_eq]
  generalize (lg_sl ([.ref h, .int x1]) ++ List.replicate (2 - (lg_sl ([.ref h, .int x1])).length) Slot.unset).toArray = ls at hl ⊢
  have hl : lv_has ls 2 [(0, .ref h), (1, .int x1)] := hl
  rw [fC_stay] at hr
  refine lv_aload_n hx hb dC_stay_0 rfl (lv_at hl 0 rfl) ?_
  refine lv_iload_n hx hb dC_stay_1 rfl (lv_at hl 1 rfl) ?_
  obtain ⟨q1, hq2, hr⟩ := Option.bind_eq_some_iff.mp hr
  refine tp_kP (rest := []) S hK hP hD rfl rfl (cC_isThere l D h a cI cZ _ σ x1 q1 hq2) (cwV 1 hTB tp_gC_isThere rfl rfl rfl ⟨rfl, by decide, by decide, by decide +kernel⟩ ⟨Nat.le_of_ble_eq_true rfl, Nat.le_of_ble_eq_true rfl⟩) rfl hl.1 rfl (Nat.le_of_ble_eq_true rfl) dC_stay_2 ⟨Nat.zero_le _, Nat.zero_le _⟩ ?_
  refine lv_if_ne (tgt := 16) hx hb dC_stay_5 (by decide) (fun hc3 => ?_) (fun hc3 => ?_)
  · replace hr := (if_neg hc3).symm.trans hr
    refine lv_aload_n hx hb dC_stay_16 rfl (lv_at hl 0 rfl) ?_
    refine tp_gtC S hK hP 2 (by decide) (v := .ref (a 2)) tp_mC_f2 rfl dC_stay_17 ?_
    refine lv_iload_n hx hb dC_stay_20 rfl (lv_at hl 1 rfl) ?_
    by_cases hb4 : tp_oob x1 12
    · exact nomatch ((if_pos hb4).symm.trans hr)
    replace hr := (if_neg hb4).symm.trans hr
    refine va_zald hx hb hK hP 3 1 rfl rfl hb4 dC_stay_21 ?_
    refine lv_if_ne (tgt := 33) hx hb dC_stay_22 (by decide) (fun hc5 => ?_) (fun hc5 => ?_)
    · replace hr := (if_neg hc5).symm.trans hr
      refine lv_aload_n hx hb dC_stay_33 rfl (lv_at hl 0 rfl) ?_
      refine tp_gtC S hK hP 2 (by decide) (v := .ref (a 2)) tp_mC_f2 rfl dC_stay_34 ?_
      refine lv_iload_n hx hb dC_stay_37 rfl (lv_at hl 1 rfl) ?_
      refine lv_iconst (v := 0) hx hb dC_stay_38 (by decide) ?_
      refine tp_asC2 S hK hP hD hS hb4 dC_stay_39 (fun H locs hP hD hS => ?_)
      obtain rfl := Option.some.inj hr
      refine vx_ret (W.widen (k := 1) (n := 6) (Nat.zero_le _) (Nat.zero_le _) ?_)
      exact W.vret hx hb hrt (fun t ht _ => ⟨⟨(tp_up σ 2 x1.toNatClampNeg (vp_nar .boolean 0)), rfl, rfl, by show va_P D tp_CL _ t.heap; rw [ht]; exact hP⟩, hS.F ht⟩) hS.2.2 dC_stay_40 hlocks
    · replace hr := (if_pos hc5).symm.trans hr
      obtain rfl := Option.some.inj hr
      exact tp_thrC (k := 2) hx hb hl0 hown (by decide) tp_xC_2 hTB hX hS hP (hl.1.trans hml.symm) dC_stay_25 dC_stay_28 dC_stay_29 dC_stay_32 hnoh (Nat.le_of_ble_eq_true rfl) (Nat.le_of_ble_eq_true rfl) (Nat.le_of_ble_eq_true rfl) (Nat.le_of_ble_eq_true rfl) hlocks
  · replace hr := (if_pos hc3).symm.trans hr
    obtain rfl := Option.some.inj hr
    exact tp_thrC (k := 1) hx hb hl0 hown (by decide) tp_xC_1 hTB hX hS hP (hl.1.trans hml.symm) dC_stay_8 dC_stay_11 dC_stay_12 dC_stay_15 hnoh (Nat.le_of_ble_eq_true rfl) (Nat.le_of_ble_eq_true rfl) (Nat.le_of_ble_eq_true rfl) (Nat.le_of_ble_eq_true rfl) hlocks
set_option maxHeartbeats 4000000 in
set_option maxRecDepth 100000 in
theorem cC_isDegraded (l : Launch) (D : va_G) (h : Nat) (a : Nat → Nat) (cI cZ : ClassId) (sz : Nat) (σ : tp_St) (x1 : Int32) (r : Int32) (hr : fC_isDegraded σ x1 = some r) : Met l tp_yC_isDegraded (tp_wsT tp_yC_isDegraded tp_bC_isDegraded 2 (some .boolean)) { frames := 1, cells := 0, slots := 0, locals := 21 } (tp_PcW D [(cI, .int), (cZ, .boolean)] (tp_wC h a cI cZ σ) sz [.ref h, .int x1]) (tp_qI r) 0 0 tp_noF := by
  refine Met.ofW (cc := tp_bC_isDegraded) (maxL := 2) (ret := (some .boolean)) (by decide) rfl ?_
  intro p e s m args below meth c s₁ B hml hv
  obtain ⟨rfl, hsz, hP, hK, hD0⟩ := hv
  have hx := B.exec
  have hb := B.bytes
  have hrt := B.returns
  have hTB : ∀ w ∈ tp_TB, w.before _ s = true := fun w z => atoms_spec (ws := (tp_wsT tp_yC_isDegraded tp_bC_isDegraded 2 (some .boolean))) B.pre w (List.mem_cons_of_mem _ z)
  have hown : s.vm.findClass tp_RC = some m.cls := findClass_of_methodNamed B.named
  have hlocks := B.notSynchronized
  have S : CallFix p m c tp_bC_isDegraded 2 s _ tp_TB tp_RC := ⟨hx, hb, hml, hown, hTB⟩
  subst hsz
  have hD : va_D (va_A (tp_wC h a cI cZ σ) s.heap.size) (tp_wC h a cI cZ σ) := hD0.self
  have hl := lv_entry ([.ref h, .int x1]) (n := 2) (Nat.le_of_ble_eq_true rfl)
  rw [lg_entry_eq]
  generalize (lg_sl ([.ref h, .int x1]) ++ List.replicate (2 - (lg_sl ([.ref h, .int x1])).length) Slot.unset).toArray = ls at hl ⊢
  have hl : lv_has ls 2 [(0, .ref h), (1, .int x1)] := hl
  rw [fC_isDegraded] at hr
  refine lv_aload_n hx hb dC_isDegraded_0 rfl (lv_at hl 0 rfl) ?_
  refine lv_iload_n hx hb dC_isDegraded_1 rfl (lv_at hl 1 rfl) ?_
  obtain ⟨q1, hq2, hr⟩ := Option.bind_eq_some_iff.mp hr
  refine tp_kP (rest := []) S hK hP hD rfl rfl (cC_copiesOf l D h a cI cZ _ σ x1 q1 hq2) (cwV 1 hTB tp_gC_copiesOf rfl rfl rfl ⟨rfl, by decide, by decide, by decide +kernel⟩ ⟨Nat.le_of_ble_eq_true rfl, Nat.le_of_ble_eq_true rfl⟩) rfl hl.1 rfl (Nat.le_of_ble_eq_true rfl) dC_isDegraded_2 ⟨Nat.zero_le _, Nat.zero_le _⟩ ?_
  refine lv_iconst (v := 1) hx hb dC_isDegraded_5 (by decide) ?_
  refine lv_icmp_ne (tgt := 13) hx hb dC_isDegraded_6 (by decide) (fun hc3 => ?_) (fun hc3 => ?_)
  · replace hr := (if_neg hc3).symm.trans hr
    refine lv_iconst (v := 0) hx hb dC_isDegraded_13 (by decide) ?_
    obtain rfl := Option.some.inj hr
    exact W.zret (v := 0) hx hb hrt (by decide) (fun t ht _ => ⟨rfl, ht⟩) (fun _ z => nomatch z) dC_isDegraded_14 hlocks
  · replace hr := (if_pos hc3).symm.trans hr
    refine lv_iconst (v := 1) hx hb dC_isDegraded_9 (by decide) ?_
    refine lv_goto (tgt := 14) hx hb dC_isDegraded_10 (by decide) ?_
    obtain rfl := Option.some.inj hr
    exact W.zret (v := 1) hx hb hrt (by decide) (fun t ht _ => ⟨rfl, ht⟩) (fun _ z => nomatch z) dC_isDegraded_14 hlocks
set_option maxHeartbeats 4000000 in
set_option maxRecDepth 100000 in
theorem cC_mendOne (l : Launch) (D : va_G) (h : Nat) (a : Nat → Nat) (cI cZ : ClassId) (sz : Nat) (σ : tp_St) (r : (Int32 × tp_St)) (hr : fC_mendOne σ = some r) : Met l tp_yC_mendOne (tp_wsT tp_yC_mendOne tp_bC_mendOne 3 (some .boolean)) { frames := 3, cells := 0, slots := 0, locals := 66 } (tp_PcW D [(cI, .int), (cZ, .boolean)] (tp_wC h a cI cZ σ) sz [.ref h]) (tp_qW (some (.int r.1)) D (tp_wC h a cI cZ r.2) (va_A (tp_wC h a cI cZ σ) sz)) 0 0 (va_A (tp_wC h a cI cZ σ) sz) := by
  refine Met.ofW (cc := tp_bC_mendOne) (maxL := 3) (ret := (some .boolean)) (by decide) rfl ?_
  intro p e s m args below meth c s₁ B hml hv
  obtain ⟨rfl, hsz, hP, hK, hD0⟩ := hv
  have hx := B.exec
  have hb := B.bytes
  have hrt := B.returns
  have hTB : ∀ w ∈ tp_TB, w.before _ s = true := fun w z => atoms_spec (ws := (tp_wsT tp_yC_mendOne tp_bC_mendOne 3 (some .boolean))) B.pre w (List.mem_cons_of_mem _ z)
  have hown : s.vm.findClass tp_RC = some m.cls := findClass_of_methodNamed B.named
  have hlocks := B.notSynchronized
  have S : CallFix p m c tp_bC_mendOne 3 s _ tp_TB tp_RC := ⟨hx, hb, hml, hown, hTB⟩
  subst hsz
  have hD : va_D (va_A (tp_wC h a cI cZ σ) s.heap.size) (tp_wC h a cI cZ σ) := hD0.self
  have hA : ∀ q : Nat, s.heap.size ≤ q → va_A (tp_wC h a cI cZ σ) s.heap.size q := fun q z => Or.inr z
  have hS : va_S (va_A (tp_wC h a cI cZ σ) s.heap.size) s.heap s.heap [] := va_S.rf
  have hl := lv_entry ([.ref h]) (n := 3) (Nat.le_of_ble_eq_true rfl)
  rw [lg_entry_eq]
  generalize (lg_sl ([.ref h]) ++ List.replicate (3 - (lg_sl ([.ref h])).length) Slot.unset).toArray = ls at hl ⊢
  have hl : lv_has ls 3 [(0, .ref h)] := hl
  rw [fC_mendOne] at hr
  refine lv_iconst (v := 0) hx hb dC_mendOne_0 (by decide) ?_
  refine lv_istore_n hx hb dC_mendOne_1 rfl hl (by decide) rfl (fun ls hl => ?_)
  have hl : lv_has ls 3 [(1, .int 0), (0, .ref h)] := hl
  have loop2 : ∀ (n2 : Nat) (x1 : Int32) (σ2 : tp_St) (H : Heap) (locs : List Loc) (ls : Array Slot), fC_mendOne_L2  n2 x1 σ2 = some r → lv_has ls 3 [(0, .ref h), (1, .int x1)] → va_P D tp_CL (tp_wC h a cI cZ σ2) H → va_D (va_A (tp_wC h a cI cZ σ) s.heap.size) (tp_wC h a cI cZ σ2) → va_S (va_A (tp_wC h a cI cZ σ) s.heap.size) s.heap H locs → W p l e { frames := 3, cells := 0, slots := 0, locals := 66 } s m (([.ref h] : List Value).toArray) below meth c H locs 0 0 (MQ below (tp_qW (some (.int r.1)) D (tp_wC h a cI cZ r.2) (va_A (tp_wC h a cI cZ σ) s.heap.size)) (([.ref h] : List Value).toArray) s 0 0 (va_A (tp_wC h a cI cZ σ) s.heap.size)) (F0 m 2 ls []) := by
    intro n2
    induction n2 with
    | zero => intro x1 σ2 H locs ls hr hl hP hD hS; exact nomatch (show (none : Option (Int32 × tp_St)) = some r from hr)
    | succ n2 ih2 =>
      intro x1 σ2 H locs ls hr hl hP hD hS
      rw [fC_mendOne_L2] at hr
      refine lv_iload_n hx hb dC_mendOne_2 rfl (lv_at hl 1 rfl) ?_
      refine lv_sipush (v := 400) hx hb dC_mendOne_3 (by decide) ?_
      refine lv_icmp_ge (tgt := 51) hx hb dC_mendOne_6 (by decide) (fun hc1 => ?_) (fun hc1 => ?_)
      · replace hr := (if_pos hc1).symm.trans hr
        refine lv_iconst (v := 0) hx hb dC_mendOne_51 (by decide) ?_
        obtain rfl := Option.some.inj hr
        exact W.zret (v := 0) hx hb hrt (by decide) (fun t ht _ => ⟨rfl, by rw [ht]; exact hP, hS.F ht⟩) hS.2.2 dC_mendOne_52 hlocks
      · replace hr := (if_neg hc1).symm.trans hr
        refine lv_aload_n hx hb dC_mendOne_9 rfl (lv_at hl 0 rfl) ?_
        refine lv_iload_n hx hb dC_mendOne_10 rfl (lv_at hl 1 rfl) ?_
        obtain ⟨q2, hq3, hr⟩ := Option.bind_eq_some_iff.mp hr
        refine tp_kP (rest := []) S hK hP hD rfl rfl (cC_isDegraded l D h a cI cZ _ σ2 x1 q2 hq3) (cwV 1 hTB tp_gC_isDegraded rfl rfl rfl ⟨rfl, by decide, by decide, by decide +kernel⟩ ⟨Nat.le_of_ble_eq_true rfl, Nat.le_of_ble_eq_true rfl⟩) rfl hl.1 rfl (Nat.le_of_ble_eq_true rfl) dC_mendOne_11 ⟨Nat.zero_le _, Nat.zero_le _⟩ ?_
        refine lv_if_eq (tgt := 30) hx hb dC_mendOne_14 (by decide) (fun hc4 => ?_) (fun hc4 => ?_)
        · replace hr := (if_pos hc4).symm.trans hr
          refine lv_iconst (v := (-1)) hx hb dC_mendOne_30 (by decide) ?_
          refine lv_istore_n hx hb dC_mendOne_31 rfl hl (by decide) rfl (fun ls hl => ?_)
          have hl : lv_has ls 3 [(2, .int (-1)), (0, .ref h), (1, .int x1)] := hl
          refine lv_iload_n hx hb dC_mendOne_32 rfl (lv_at hl 0 rfl) ?_
          refine lv_iconst (v := (-1)) hx hb dC_mendOne_33 (by decide) ?_
          refine lv_icmp_eq (tgt := 45) hx hb dC_mendOne_34 (by decide) (fun _ => ?_) (fun z => absurd (by decide) z)
          refine lv_iinc (k := 2) (v := (x1 + 1)) hx hb dC_mendOne_45 hl rfl (tp_ii1 _) (by decide) rfl (fun ls hl => ?_)
          have hl : lv_has ls 3 [(1, .int (x1 + 1)), (2, .int (-1)), (0, .ref h)] := hl
          refine lv_goto (tgt := 2) hx hb dC_mendOne_48 (by decide) ?_
          exact ih2 (x1 + 1) σ2 H locs ls hr (lv_sub hl [2, 0] rfl) hP hD hS
        · replace hr := (if_neg hc4).symm.trans hr
          refine lv_aload_n hx hb dC_mendOne_17 rfl (lv_at hl 0 rfl) ?_
          refine lv_aload_n hx hb dC_mendOne_18 rfl (lv_at hl 0 rfl) ?_
          refine tp_gtC S hK hP 4 (by decide) (v := .ref (a 4)) tp_mC_f4 rfl dC_mendOne_19 ?_
          refine lv_iload_n hx hb dC_mendOne_22 rfl (lv_at hl 1 rfl) ?_
          by_cases hb5 : tp_oob x1 400
          · exact nomatch ((if_pos hb5).symm.trans hr)
          replace hr := (if_neg hb5).symm.trans hr
          refine va_iald hx hb hK hP 5 0 rfl rfl hb5 dC_mendOne_23 ?_
          obtain ⟨q6, hq7, hr⟩ := Option.bind_eq_some_iff.mp hr
          refine tp_kP (rest := []) S hK hP hD rfl rfl (cC_emptiestBut l D h a cI cZ _ σ2 (σ2 4 x1.toNatClampNeg) q6 hq7) (cwV 1 hTB tp_gC_emptiestBut rfl rfl rfl ⟨rfl, by decide, by decide, by decide +kernel⟩ ⟨Nat.le_of_ble_eq_true rfl, Nat.le_of_ble_eq_true rfl⟩) rfl hl.1 rfl (Nat.le_of_ble_eq_true rfl) dC_mendOne_24 ⟨Nat.zero_le _, Nat.zero_le _⟩ ?_
          refine lv_goto (tgt := 31) hx hb dC_mendOne_27 (by decide) ?_
          refine lv_istore_n hx hb dC_mendOne_31 rfl hl (by decide) rfl (fun ls hl => ?_)
          have hl : lv_has ls 3 [(2, .int q6), (0, .ref h), (1, .int x1)] := hl
          refine lv_iload_n hx hb dC_mendOne_32 rfl (lv_at hl 0 rfl) ?_
          refine lv_iconst (v := (-1)) hx hb dC_mendOne_33 (by decide) ?_
          refine lv_icmp_eq (tgt := 45) hx hb dC_mendOne_34 (by decide) (fun hc8 => ?_) (fun hc8 => ?_)
          · replace hr := (if_pos hc8).symm.trans hr
            refine lv_iinc (k := 2) (v := (x1 + 1)) hx hb dC_mendOne_45 hl rfl (tp_ii1 _) (by decide) rfl (fun ls hl => ?_)
            have hl : lv_has ls 3 [(1, .int (x1 + 1)), (2, .int q6), (0, .ref h)] := hl
            refine lv_goto (tgt := 2) hx hb dC_mendOne_48 (by decide) ?_
            exact ih2 (x1 + 1) σ2 H locs ls hr (lv_sub hl [2, 0] rfl) hP hD hS
          · replace hr := (if_neg hc8).symm.trans hr
            refine lv_aload_n hx hb dC_mendOne_37 rfl (lv_at hl 1 rfl) ?_
            refine lv_iload_n hx hb dC_mendOne_38 rfl (lv_at hl 2 rfl) ?_
            refine lv_iload_n hx hb dC_mendOne_39 rfl (lv_at hl 0 rfl) ?_
            obtain ⟨q9, hq10, hr⟩ := Option.bind_eq_some_iff.mp hr
            refine tp_kV (rest := []) S hK hP hD hS hA rfl rfl (cC_addCopy l D h a cI cZ _ σ2 x1 q6 q9 hq10) (cwV 2 hTB tp_gC_addCopy rfl rfl rfl ⟨rfl, by decide, by decide, by decide +kernel⟩ ⟨Nat.le_of_ble_eq_true rfl, Nat.le_of_ble_eq_true rfl⟩) rfl hl.1 rfl (Nat.le_of_ble_eq_true rfl) dC_mendOne_40 ⟨Nat.zero_le _, Nat.zero_le _⟩ (fun H locs hP hS => ?_)
            have hP : va_P D tp_CL (tp_wC h a cI cZ q9) H := hP
            have hD : va_D (va_A (tp_wC h a cI cZ σ) s.heap.size) (tp_wC h a cI cZ q9) := tp_dre hD tp_wC_fst
            refine lv_iconst (v := 1) hx hb dC_mendOne_43 (by decide) ?_
            obtain rfl := Option.some.inj hr
            exact W.zret (v := 1) hx hb hrt (by decide) (fun t ht _ => ⟨rfl, by rw [ht]; exact hP, hS.F ht⟩) hS.2.2 dC_mendOne_44 hlocks
  exact loop2 401 0 σ _ _ ls hr (lv_sub hl [1, 0] rfl) hP hD hS
set_option maxHeartbeats 4000000 in
set_option maxRecDepth 100000 in
theorem cC_staysWithRoom (l : Launch) (D : va_G) (h : Nat) (a : Nat → Nat) (cI cZ : ClassId) (sz : Nat) (σ : tp_St) (x1 : Int32) (r : Int32) (hr : fC_staysWithRoom σ x1 = some r) : Met l tp_yC_staysWithRoom (tp_wsT tp_yC_staysWithRoom tp_bC_staysWithRoom 2 (some .boolean)) { frames := 2, cells := 0, slots := 0, locals := 42 } (tp_PcW D [(cI, .int), (cZ, .boolean)] (tp_wC h a cI cZ σ) sz [.ref h, .int x1]) (tp_qI r) 0 0 tp_noF := by
  refine Met.ofW (cc := tp_bC_staysWithRoom) (maxL := 2) (ret := (some .boolean)) (by decide) rfl ?_
  intro p e s m args below meth c s₁ B hml hv
  obtain ⟨rfl, hsz, hP, hK, hD0⟩ := hv
  have hx := B.exec
  have hb := B.bytes
  have hrt := B.returns
  have hTB : ∀ w ∈ tp_TB, w.before _ s = true := fun w z => atoms_spec (ws := (tp_wsT tp_yC_staysWithRoom tp_bC_staysWithRoom 2 (some .boolean))) B.pre w (List.mem_cons_of_mem _ z)
  have hown : s.vm.findClass tp_RC = some m.cls := findClass_of_methodNamed B.named
  have hlocks := B.notSynchronized
  have S : CallFix p m c tp_bC_staysWithRoom 2 s _ tp_TB tp_RC := ⟨hx, hb, hml, hown, hTB⟩
  subst hsz
  have hD : va_D (va_A (tp_wC h a cI cZ σ) s.heap.size) (tp_wC h a cI cZ σ) := hD0.self
  have hl := lv_entry ([.ref h, .int x1]) (n := 2) (Nat.le_of_ble_eq_true rfl)
  rw [lg_entry_eq]
  generalize (lg_sl ([.ref h, .int x1]) ++ List.replicate (2 - (lg_sl ([.ref h, .int x1])).length) Slot.unset).toArray = ls at hl ⊢
  have hl : lv_has ls 2 [(0, .ref h), (1, .int x1)] := hl
  rw [fC_staysWithRoom] at hr
  refine lv_aload_n hx hb dC_staysWithRoom_0 rfl (lv_at hl 0 rfl) ?_
  refine lv_iload_n hx hb dC_staysWithRoom_1 rfl (lv_at hl 1 rfl) ?_
  obtain ⟨q1, hq2, hr⟩ := Option.bind_eq_some_iff.mp hr
  refine tp_kP (rest := []) S hK hP hD rfl rfl (cC_stays l D h a cI cZ _ σ x1 q1 hq2) (cwV 1 hTB tp_gC_stays rfl rfl rfl ⟨rfl, by decide, by decide, by decide +kernel⟩ ⟨Nat.le_of_ble_eq_true rfl, Nat.le_of_ble_eq_true rfl⟩) rfl hl.1 rfl (Nat.le_of_ble_eq_true rfl) dC_staysWithRoom_2 ⟨Nat.zero_le _, Nat.zero_le _⟩ ?_
  refine lv_if_eq (tgt := 20) hx hb dC_staysWithRoom_5 (by decide) (fun hc3 => ?_) (fun hc3 => ?_)
  · replace hr := (if_pos hc3).symm.trans hr
    refine lv_iconst (v := 0) hx hb dC_staysWithRoom_20 (by decide) ?_
    obtain rfl := Option.some.inj hr
    exact W.zret (v := 0) hx hb hrt (by decide) (fun t ht _ => ⟨rfl, ht⟩) (fun _ z => nomatch z) dC_staysWithRoom_21 hlocks
  · replace hr := (if_neg hc3).symm.trans hr
    refine lv_aload_n hx hb dC_staysWithRoom_8 rfl (lv_at hl 0 rfl) ?_
    refine lv_iload_n hx hb dC_staysWithRoom_9 rfl (lv_at hl 1 rfl) ?_
    obtain ⟨q4, hq5, hr⟩ := Option.bind_eq_some_iff.mp hr
    refine tp_kP (rest := []) S hK hP hD rfl rfl (cC_freePlaces l D h a cI cZ _ σ x1 q4 hq5) (cwV 1 hTB tp_gC_freePlaces rfl rfl rfl ⟨rfl, by decide, by decide, by decide +kernel⟩ ⟨Nat.le_of_ble_eq_true rfl, Nat.le_of_ble_eq_true rfl⟩) rfl hl.1 rfl (Nat.le_of_ble_eq_true rfl) dC_staysWithRoom_10 ⟨Nat.zero_le _, Nat.zero_le _⟩ ?_
    refine lv_if_le (tgt := 20) hx hb dC_staysWithRoom_13 (by decide) (fun hc6 => ?_) (fun hc6 => ?_)
    · replace hr := (if_pos hc6).symm.trans hr
      refine lv_iconst (v := 0) hx hb dC_staysWithRoom_20 (by decide) ?_
      obtain rfl := Option.some.inj hr
      exact W.zret (v := 0) hx hb hrt (by decide) (fun t ht _ => ⟨rfl, ht⟩) (fun _ z => nomatch z) dC_staysWithRoom_21 hlocks
    · replace hr := (if_neg hc6).symm.trans hr
      refine lv_iconst (v := 1) hx hb dC_staysWithRoom_16 (by decide) ?_
      refine lv_goto (tgt := 21) hx hb dC_staysWithRoom_17 (by decide) ?_
      obtain rfl := Option.some.inj hr
      exact W.zret (v := 1) hx hb hrt (by decide) (fun t ht _ => ⟨rfl, ht⟩) (fun _ z => nomatch z) dC_staysWithRoom_21 hlocks
