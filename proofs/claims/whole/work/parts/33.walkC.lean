set_option maxHeartbeats 4000000 in
set_option maxRecDepth 100000 in
theorem cC_free (l : Launch) (hl0 : l.stackTraces = false) (D : va_G) (h : Nat) (a : Nat → Nat) (cI cZ : ClassId) (sz : Nat) (σ : tp_St) (x1 : Int32) (r : (Nat × Int32 × tp_St)) (hr : fC_free σ x1 = some r) : vx_Met l tp_yC_free (tp_wsT tp_yC_free tp_bC_free 3 (some .int)) { frames := 6, cells := 1, slots := 6, locals := 89 } (tp_PcX D [(cI, .int), (cZ, .boolean)] (tp_wC h a cI cZ σ) sz [.ref h, .int x1]) (tp_qTC D h a cI cZ r (va_A (tp_wC h a cI cZ σ) sz)) (tp_qXC [1] D h a cI cZ r (va_A (tp_wC h a cI cZ σ) sz)) 1 6 (va_A (tp_wC h a cI cZ σ) sz) := by
  refine vx_ofW (cc := tp_bC_free) (maxL := 3) (ret := (some .int)) (by decide) rfl ?_
  intro p e s m args below meth c s₁ B hml hnoh0 hv
  obtain ⟨rfl, hsz, hP, hK, hD0, hX⟩ := hv
  have hnoh : ∀ (x : ExceptionTableEntry), x ∈ c.exceptionTable.toList → False := hnoh0
  have hx := B.exec
  have hb := B.bytes
  have hrt := B.returns
  have hTB : ∀ w ∈ tp_TB, w.before _ s = true := fun w z => atoms_spec (ws := (tp_wsT tp_yC_free tp_bC_free 3 (some .int))) B.pre w (List.mem_cons_of_mem _ z)
  have hown : s.vm.findClass tp_RC = some m.cls := findClass_of_methodNamed B.named
  have hlocks := B.notSynchronized
  have S : CallFix p m c tp_bC_free 3 s _ tp_TB tp_RC := ⟨hx, hb, hml, hown, hTB⟩
  subst hsz
  have hD : va_D (va_A (tp_wC h a cI cZ σ) s.heap.size) (tp_wC h a cI cZ σ) := hD0.self
  have hA : ∀ q : Nat, s.heap.size ≤ q → va_A (tp_wC h a cI cZ σ) s.heap.size q := fun q z => Or.inr z
  have hS : va_S (va_A (tp_wC h a cI cZ σ) s.heap.size) s.heap s.heap [] := va_S.rf
  have hl := lv_entry ([.ref h, .int x1]) (n := 3) (Nat.le_of_ble_eq_true rfl)
  rw [lg_entry_eq]
  generalize (lg_sl ([.ref h, .int x1]) ++ List.replicate (3 - (lg_sl ([.ref h, .int x1])).length) Slot.unset).toArray = ls at hl ⊢
  have hl : lv_has ls 3 [(0, .ref h), (1, .int x1)] := hl
  rw [fC_free] at hr
  refine lv_aload_n hx hb dC_free_0 rfl (lv_at hl 0 rfl) ?_
  refine lv_iload_n hx hb dC_free_1 rfl (lv_at hl 1 rfl) ?_
  obtain ⟨q1, hq2, hr⟩ := Option.bind_eq_some_iff.mp hr
  refine tp_kP (rest := []) S hK hP hD rfl rfl (cC_isChunk l D h a cI cZ _ σ x1 q1 hq2) (cwV 1 hTB tp_gC_isChunk rfl rfl rfl ⟨rfl, by decide, by decide, by decide +kernel⟩ ⟨Nat.le_of_ble_eq_true rfl, Nat.le_of_ble_eq_true rfl⟩) rfl hl.1 rfl (Nat.le_of_ble_eq_true rfl) dC_free_2 ⟨Nat.zero_le _, Nat.zero_le _⟩ ?_
  refine lv_if_ne (tgt := 16) hx hb dC_free_5 (by decide) (fun hc3 => ?_) (fun hc3 => ?_)
  · replace hr := (if_neg hc3).symm.trans hr
    refine lv_aload_n hx hb dC_free_16 rfl (lv_at hl 0 rfl) ?_
    refine lv_iload_n hx hb dC_free_17 rfl (lv_at hl 1 rfl) ?_
    obtain ⟨q4, hq5, hr⟩ := Option.bind_eq_some_iff.mp hr
    refine tp_kP (rest := []) S hK hP hD rfl rfl (cC_copiesOf l D h a cI cZ _ σ x1 q4 hq5) (cwV 1 hTB tp_gC_copiesOf rfl rfl rfl ⟨rfl, by decide, by decide, by decide +kernel⟩ ⟨Nat.le_of_ble_eq_true rfl, Nat.le_of_ble_eq_true rfl⟩) rfl hl.1 rfl (Nat.le_of_ble_eq_true rfl) dC_free_18 ⟨Nat.zero_le _, Nat.zero_le _⟩ ?_
    refine lv_istore_n hx hb dC_free_21 rfl hl (by decide) rfl (fun ls hl => ?_)
    have hl : lv_has ls 3 [(2, .int q4), (0, .ref h), (1, .int x1)] := hl
    refine lv_aload_n hx hb dC_free_22 rfl (lv_at hl 1 rfl) ?_
    refine tp_gtC S hK hP 5 (by decide) (v := .ref (a 5)) tp_mC_f5 rfl dC_free_23 ?_
    refine lv_iload_n hx hb dC_free_26 rfl (lv_at hl 2 rfl) ?_
    by_cases hb6 : tp_oob x1 400
    · exact nomatch ((if_pos hb6).symm.trans hr)
    replace hr := (if_neg hb6).symm.trans hr
    refine va_iald hx hb hK hP 6 0 rfl rfl hb6 dC_free_27 ?_
    refine lv_iconst (v := (-1)) hx hb dC_free_28 (by decide) ?_
    refine lv_icmp_eq (tgt := 43) hx hb dC_free_29 (by decide) (fun hc7 => ?_) (fun hc7 => ?_)
    · replace hr := (if_pos hc7).symm.trans hr
      refine lv_aload_n hx hb dC_free_43 rfl (lv_at hl 1 rfl) ?_
      refine tp_gtC S hK hP 4 (by decide) (v := .ref (a 4)) tp_mC_f4 rfl dC_free_44 ?_
      refine lv_iload_n hx hb dC_free_47 rfl (lv_at hl 2 rfl) ?_
      refine va_iald hx hb hK hP 5 0 rfl rfl hb6 dC_free_48 ?_
      refine lv_iconst (v := (-1)) hx hb dC_free_49 (by decide) ?_
      refine lv_icmp_eq (tgt := 64) hx hb dC_free_50 (by decide) (fun hc8 => ?_) (fun hc8 => ?_)
      · replace hr := (if_pos hc8).symm.trans hr
        refine lv_aload_n hx hb dC_free_64 rfl (lv_at hl 1 rfl) ?_
        refine tp_gtC S hK hP 3 (by decide) (v := .ref (a 3)) tp_mC_f3 rfl dC_free_65 ?_
        refine lv_iload_n hx hb dC_free_68 rfl (lv_at hl 2 rfl) ?_
        refine lv_iconst (v := 0) hx hb dC_free_69 (by decide) ?_
        refine tp_asC3 S hK hP hD hS hb6 dC_free_70 (fun H locs hP hD hS => ?_)
        refine lv_iload_n hx hb dC_free_71 rfl (lv_at hl 0 rfl) ?_
        obtain rfl := Option.some.inj hr
        refine vx_ret (W.widen (k := 1) (n := 6) (Nat.zero_le _) (Nat.zero_le _) ?_)
        exact W.iret (v := q4) hx hb hrt (fun t ht _ => ⟨⟨q4, (tp_up σ 3 x1.toNatClampNeg (vp_nar .boolean 0)), rfl, rfl, by show va_P D tp_CL _ t.heap; rw [ht]; exact hP⟩, hS.F ht⟩) hS.2.2 dC_free_72 hlocks
      · replace hr := (if_neg hc8).symm.trans hr
        refine lv_aload_n hx hb dC_free_53 rfl (lv_at hl 1 rfl) ?_
        refine lv_iload_n hx hb dC_free_54 rfl (lv_at hl 2 rfl) ?_
        refine lv_aload_n hx hb dC_free_55 rfl (lv_at hl 1 rfl) ?_
        refine tp_gtC S hK hP 4 (by decide) (v := .ref (a 4)) tp_mC_f4 rfl dC_free_56 ?_
        refine lv_iload_n hx hb dC_free_59 rfl (lv_at hl 2 rfl) ?_
        refine va_iald hx hb hK hP 5 0 rfl rfl hb6 dC_free_60 ?_
        obtain ⟨q9, hq10, hr⟩ := Option.bind_eq_some_iff.mp hr
        refine tp_kV (rest := []) S hK hP hD hS hA rfl rfl (cC_dropCopy l D h a cI cZ _ σ x1 (σ 4 x1.toNatClampNeg) q9 hq10) (cwV 2 hTB tp_gC_dropCopy rfl rfl rfl ⟨rfl, by decide, by decide, by decide +kernel⟩ ⟨Nat.le_of_ble_eq_true rfl, Nat.le_of_ble_eq_true rfl⟩) rfl hl.1 rfl (Nat.le_of_ble_eq_true rfl) dC_free_61 ⟨Nat.zero_le _, Nat.zero_le _⟩ (fun H locs hP hS => ?_)
        have hP : va_P D tp_CL (tp_wC h a cI cZ q9) H := hP
        have hD : va_D (va_A (tp_wC h a cI cZ σ) s.heap.size) (tp_wC h a cI cZ q9) := tp_dre hD tp_wC_fst
        refine lv_aload_n hx hb dC_free_64 rfl (lv_at hl 1 rfl) ?_
        refine tp_gtC S hK hP 3 (by decide) (v := .ref (a 3)) tp_mC_f3 rfl dC_free_65 ?_
        refine lv_iload_n hx hb dC_free_68 rfl (lv_at hl 2 rfl) ?_
        refine lv_iconst (v := 0) hx hb dC_free_69 (by decide) ?_
        refine tp_asC3 S hK hP hD hS hb6 dC_free_70 (fun H locs hP hD hS => ?_)
        refine lv_iload_n hx hb dC_free_71 rfl (lv_at hl 0 rfl) ?_
        obtain rfl := Option.some.inj hr
        refine vx_ret (W.widen (k := 1) (n := 6) (Nat.zero_le _) (Nat.zero_le _) ?_)
        exact W.iret (v := q4) hx hb hrt (fun t ht _ => ⟨⟨q4, (tp_up q9 3 x1.toNatClampNeg (vp_nar .boolean 0)), rfl, rfl, by show va_P D tp_CL _ t.heap; rw [ht]; exact hP⟩, hS.F ht⟩) hS.2.2 dC_free_72 hlocks
    · replace hr := (if_neg hc7).symm.trans hr
      refine lv_aload_n hx hb dC_free_32 rfl (lv_at hl 1 rfl) ?_
      refine lv_iload_n hx hb dC_free_33 rfl (lv_at hl 2 rfl) ?_
      refine lv_aload_n hx hb dC_free_34 rfl (lv_at hl 1 rfl) ?_
      refine tp_gtC S hK hP 5 (by decide) (v := .ref (a 5)) tp_mC_f5 rfl dC_free_35 ?_
      refine lv_iload_n hx hb dC_free_38 rfl (lv_at hl 2 rfl) ?_
      refine va_iald hx hb hK hP 6 0 rfl rfl hb6 dC_free_39 ?_
      obtain ⟨q11, hq12, hr⟩ := Option.bind_eq_some_iff.mp hr
      refine tp_kV (rest := []) S hK hP hD hS hA rfl rfl (cC_dropCopy l D h a cI cZ _ σ x1 (σ 5 x1.toNatClampNeg) q11 hq12) (cwV 2 hTB tp_gC_dropCopy rfl rfl rfl ⟨rfl, by decide, by decide, by decide +kernel⟩ ⟨Nat.le_of_ble_eq_true rfl, Nat.le_of_ble_eq_true rfl⟩) rfl hl.1 rfl (Nat.le_of_ble_eq_true rfl) dC_free_40 ⟨Nat.zero_le _, Nat.zero_le _⟩ (fun H locs hP hS => ?_)
      have hP : va_P D tp_CL (tp_wC h a cI cZ q11) H := hP
      have hD : va_D (va_A (tp_wC h a cI cZ σ) s.heap.size) (tp_wC h a cI cZ q11) := tp_dre hD tp_wC_fst
      refine lv_aload_n hx hb dC_free_43 rfl (lv_at hl 1 rfl) ?_
      refine tp_gtC S hK hP 4 (by decide) (v := .ref (a 4)) tp_mC_f4 rfl dC_free_44 ?_
      refine lv_iload_n hx hb dC_free_47 rfl (lv_at hl 2 rfl) ?_
      refine va_iald hx hb hK hP 5 0 rfl rfl hb6 dC_free_48 ?_
      refine lv_iconst (v := (-1)) hx hb dC_free_49 (by decide) ?_
      refine lv_icmp_eq (tgt := 64) hx hb dC_free_50 (by decide) (fun hc13 => ?_) (fun hc13 => ?_)
      · replace hr := (if_pos hc13).symm.trans hr
        refine lv_aload_n hx hb dC_free_64 rfl (lv_at hl 1 rfl) ?_
        refine tp_gtC S hK hP 3 (by decide) (v := .ref (a 3)) tp_mC_f3 rfl dC_free_65 ?_
        refine lv_iload_n hx hb dC_free_68 rfl (lv_at hl 2 rfl) ?_
        refine lv_iconst (v := 0) hx hb dC_free_69 (by decide) ?_
        refine tp_asC3 S hK hP hD hS hb6 dC_free_70 (fun H locs hP hD hS => ?_)
        refine lv_iload_n hx hb dC_free_71 rfl (lv_at hl 0 rfl) ?_
        obtain rfl := Option.some.inj hr
        refine vx_ret (W.widen (k := 1) (n := 6) (Nat.zero_le _) (Nat.zero_le _) ?_)
        exact W.iret (v := q4) hx hb hrt (fun t ht _ => ⟨⟨q4, (tp_up q11 3 x1.toNatClampNeg (vp_nar .boolean 0)), rfl, rfl, by show va_P D tp_CL _ t.heap; rw [ht]; exact hP⟩, hS.F ht⟩) hS.2.2 dC_free_72 hlocks
      · replace hr := (if_neg hc13).symm.trans hr
        refine lv_aload_n hx hb dC_free_53 rfl (lv_at hl 1 rfl) ?_
        refine lv_iload_n hx hb dC_free_54 rfl (lv_at hl 2 rfl) ?_
        refine lv_aload_n hx hb dC_free_55 rfl (lv_at hl 1 rfl) ?_
        refine tp_gtC S hK hP 4 (by decide) (v := .ref (a 4)) tp_mC_f4 rfl dC_free_56 ?_
        refine lv_iload_n hx hb dC_free_59 rfl (lv_at hl 2 rfl) ?_
        refine va_iald hx hb hK hP 5 0 rfl rfl hb6 dC_free_60 ?_
        obtain ⟨q14, hq15, hr⟩ := Option.bind_eq_some_iff.mp hr
        refine tp_kV (rest := []) S hK hP hD hS hA rfl rfl (cC_dropCopy l D h a cI cZ _ q11 x1 (q11 4 x1.toNatClampNeg) q14 hq15) (cwV 2 hTB tp_gC_dropCopy rfl rfl rfl ⟨rfl, by decide, by decide, by decide +kernel⟩ ⟨Nat.le_of_ble_eq_true rfl, Nat.le_of_ble_eq_true rfl⟩) rfl hl.1 rfl (Nat.le_of_ble_eq_true rfl) dC_free_61 ⟨Nat.zero_le _, Nat.zero_le _⟩ (fun H locs hP hS => ?_)
        have hP : va_P D tp_CL (tp_wC h a cI cZ q14) H := hP
        have hD : va_D (va_A (tp_wC h a cI cZ σ) s.heap.size) (tp_wC h a cI cZ q14) := tp_dre hD tp_wC_fst
        refine lv_aload_n hx hb dC_free_64 rfl (lv_at hl 1 rfl) ?_
        refine tp_gtC S hK hP 3 (by decide) (v := .ref (a 3)) tp_mC_f3 rfl dC_free_65 ?_
        refine lv_iload_n hx hb dC_free_68 rfl (lv_at hl 2 rfl) ?_
        refine lv_iconst (v := 0) hx hb dC_free_69 (by decide) ?_
        refine tp_asC3 S hK hP hD hS hb6 dC_free_70 (fun H locs hP hD hS => ?_)
        refine lv_iload_n hx hb dC_free_71 rfl (lv_at hl 0 rfl) ?_
        obtain rfl := Option.some.inj hr
        refine vx_ret (W.widen (k := 1) (n := 6) (Nat.zero_le _) (Nat.zero_le _) ?_)
        exact W.iret (v := q4) hx hb hrt (fun t ht _ => ⟨⟨q4, (tp_up q14 3 x1.toNatClampNeg (vp_nar .boolean 0)), rfl, rfl, by show va_P D tp_CL _ t.heap; rw [ht]; exact hP⟩, hS.F ht⟩) hS.2.2 dC_free_72 hlocks
  · replace hr := (if_pos hc3).symm.trans hr
    obtain rfl := Option.some.inj hr
    exact tp_thrC (k := 1) hx hb hl0 hown (by decide) tp_xC_1 hTB hX hS hP (hl.1.trans hml.symm) dC_free_8 dC_free_11 dC_free_12 dC_free_15 hnoh (Nat.le_of_ble_eq_true rfl) (Nat.le_of_ble_eq_true rfl) (Nat.le_of_ble_eq_true rfl) (Nat.le_of_ble_eq_true rfl) hlocks
set_option maxHeartbeats 4000000 in
set_option maxRecDepth 100000 in
theorem cC_write (l : Launch) (hl0 : l.stackTraces = false) (D : va_G) (h : Nat) (a : Nat → Nat) (cI cZ : ClassId) (sz : Nat) (σ : tp_St) (x1 : Int32) (x2 : Int32) (x3 : Int32) (r : (Nat × Int32 × tp_St)) (hr : fC_write σ x1 x2 x3 = some r) : vx_Met l tp_yC_write (tp_wsT tp_yC_write tp_bC_write 4 none) { frames := 6, cells := 1, slots := 6, locals := 89 } (tp_PcX D [(cI, .int), (cZ, .boolean)] (tp_wC h a cI cZ σ) sz [.ref h, .int x1, .int x2, .int x3]) (tp_qNC D h a cI cZ r (va_A (tp_wC h a cI cZ σ) sz)) (tp_qXC [1, 2] D h a cI cZ r (va_A (tp_wC h a cI cZ σ) sz)) 1 6 (va_A (tp_wC h a cI cZ σ) sz) := by
  refine vx_ofW (cc := tp_bC_write) (maxL := 4) (ret := none) (by decide) rfl ?_
  intro p e s m args below meth c s₁ B hml hnoh0 hv
  obtain ⟨rfl, hsz, hP, hK, hD0, hX⟩ := hv
  have hnoh : ∀ (x : ExceptionTableEntry), x ∈ c.exceptionTable.toList → False := hnoh0
  have hx := B.exec
  have hb := B.bytes
  have hrt := B.returns
  have hTB : ∀ w ∈ tp_TB, w.before _ s = true := fun w z => atoms_spec (ws := (tp_wsT tp_yC_write tp_bC_write 4 none)) B.pre w (List.mem_cons_of_mem _ z)
  have hown : s.vm.findClass tp_RC = some m.cls := findClass_of_methodNamed B.named
  have hlocks := B.notSynchronized
  have S : CallFix p m c tp_bC_write 4 s _ tp_TB tp_RC := ⟨hx, hb, hml, hown, hTB⟩
  subst hsz
  have hD : va_D (va_A (tp_wC h a cI cZ σ) s.heap.size) (tp_wC h a cI cZ σ) := hD0.self
  have hA : ∀ q : Nat, s.heap.size ≤ q → va_A (tp_wC h a cI cZ σ) s.heap.size q := fun q z => Or.inr z
  have hS : va_S (va_A (tp_wC h a cI cZ σ) s.heap.size) s.heap s.heap [] := va_S.rf
  have hl := lv_entry ([.ref h, .int x1, .int x2, .int x3]) (n := 4) (Nat.le_of_ble_eq_true rfl)
  rw [lg_entry_eq]
  generalize (lg_sl ([.ref h, .int x1, .int x2, .int x3]) ++ List.replicate (4 - (lg_sl ([.ref h, .int x1, .int x2, .int x3])).length) Slot.unset).toArray = ls at hl ⊢
  have hl : lv_has ls 4 [(0, .ref h), (1, .int x1), (2, .int x2), (3, .int x3)] := hl
  rw [fC_write] at hr
  refine lv_aload_n hx hb dC_write_0 rfl (lv_at hl 0 rfl) ?_
  refine lv_iload_n hx hb dC_write_1 rfl (lv_at hl 1 rfl) ?_
  obtain ⟨q1, hq2, hr⟩ := Option.bind_eq_some_iff.mp hr
  refine tp_kP (rest := []) S hK hP hD rfl rfl (cC_isChunk l D h a cI cZ _ σ x1 q1 hq2) (cwV 1 hTB tp_gC_isChunk rfl rfl rfl ⟨rfl, by decide, by decide, by decide +kernel⟩ ⟨Nat.le_of_ble_eq_true rfl, Nat.le_of_ble_eq_true rfl⟩) rfl hl.1 rfl (Nat.le_of_ble_eq_true rfl) dC_write_2 ⟨Nat.zero_le _, Nat.zero_le _⟩ ?_
  refine lv_if_eq (tgt := 17) hx hb dC_write_5 (by decide) (fun hc3 => ?_) (fun hc3 => ?_)
  · replace hr := (if_pos hc3).symm.trans hr
    obtain rfl := Option.some.inj hr
    exact tp_thrC (k := 1) hx hb hl0 hown (by decide) tp_xC_1 hTB hX hS hP (hl.1.trans hml.symm) dC_write_17 dC_write_20 dC_write_21 dC_write_24 hnoh (Nat.le_of_ble_eq_true rfl) (Nat.le_of_ble_eq_true rfl) (Nat.le_of_ble_eq_true rfl) (Nat.le_of_ble_eq_true rfl) hlocks
  · replace hr := (if_neg hc3).symm.trans hr
    refine lv_iload_n hx hb dC_write_8 rfl (lv_at hl 2 rfl) ?_
    refine lv_if_lt (tgt := 17) hx hb dC_write_9 (by decide) (fun hc4 => ?_) (fun hc4 => ?_)
    · replace hr := (if_pos hc4).symm.trans hr
      obtain rfl := Option.some.inj hr
      exact tp_thrC (k := 1) hx hb hl0 hown (by decide) tp_xC_1 hTB hX hS hP (hl.1.trans hml.symm) dC_write_17 dC_write_20 dC_write_21 dC_write_24 hnoh (Nat.le_of_ble_eq_true rfl) (Nat.le_of_ble_eq_true rfl) (Nat.le_of_ble_eq_true rfl) (Nat.le_of_ble_eq_true rfl) hlocks
    · replace hr := (if_neg hc4).symm.trans hr
      refine lv_iload_n hx hb dC_write_12 rfl (lv_at hl 2 rfl) ?_
      refine lv_iconst (v := 4) hx hb dC_write_13 (by decide) ?_
      refine lv_icmp_lt (tgt := 25) hx hb dC_write_14 (by decide) (fun hc5 => ?_) (fun hc5 => ?_)
      · replace hr := (if_pos hc5).symm.trans hr
        refine lv_aload_n hx hb dC_write_25 rfl (lv_at hl 0 rfl) ?_
        refine lv_iload_n hx hb dC_write_26 rfl (lv_at hl 1 rfl) ?_
        obtain ⟨q6, hq7, hr⟩ := Option.bind_eq_some_iff.mp hr
        refine tp_kP (rest := []) S hK hP hD rfl rfl (cC_copiesOf l D h a cI cZ _ σ x1 q6 hq7) (cwV 1 hTB tp_gC_copiesOf rfl rfl rfl ⟨rfl, by decide, by decide, by decide +kernel⟩ ⟨Nat.le_of_ble_eq_true rfl, Nat.le_of_ble_eq_true rfl⟩) rfl hl.1 rfl (Nat.le_of_ble_eq_true rfl) dC_write_27 ⟨Nat.zero_le _, Nat.zero_le _⟩ ?_
        refine lv_if_ne (tgt := 41) hx hb dC_write_30 (by decide) (fun hc8 => ?_) (fun hc8 => ?_)
        · replace hr := (if_neg hc8).symm.trans hr
          refine lv_aload_n hx hb dC_write_41 rfl (lv_at hl 0 rfl) ?_
          refine tp_gtC S hK hP 6 (by decide) (v := .ref (a 6)) tp_mC_f6 rfl dC_write_42 ?_
          refine lv_iload_n hx hb dC_write_45 rfl (lv_at hl 1 rfl) ?_
          refine lv_iconst (v := 4) hx hb dC_write_46 (by decide) ?_
          refine lv_imul hx hb dC_write_47 ?_
          refine lv_iload_n hx hb dC_write_48 rfl (lv_at hl 2 rfl) ?_
          refine lv_iadd hx hb dC_write_49 ?_
          refine lv_iload_n hx hb dC_write_50 rfl (lv_at hl 3 rfl) ?_
          by_cases hb9 : tp_oob ((x1 * 4) + x2) 1600
          · exact nomatch ((if_pos hb9).symm.trans hr)
          replace hr := (if_neg hb9).symm.trans hr
          refine tp_asC6 S hK hP hD hS hb9 dC_write_51 (fun H locs hP hD hS => ?_)
          obtain rfl := Option.some.inj hr
          refine vx_ret (W.widen (k := 1) (n := 6) (Nat.zero_le _) (Nat.zero_le _) ?_)
          exact W.vret hx hb hrt (fun t ht _ => ⟨⟨(tp_up σ 6 ((x1 * 4) + x2).toNatClampNeg x3), rfl, rfl, by show va_P D tp_CL _ t.heap; rw [ht]; exact hP⟩, hS.F ht⟩) hS.2.2 dC_write_52 hlocks
        · replace hr := (if_pos hc8).symm.trans hr
          obtain rfl := Option.some.inj hr
          exact tp_thrC (k := 2) hx hb hl0 hown (by decide) tp_xC_2 hTB hX hS hP (hl.1.trans hml.symm) dC_write_33 dC_write_36 dC_write_37 dC_write_40 hnoh (Nat.le_of_ble_eq_true rfl) (Nat.le_of_ble_eq_true rfl) (Nat.le_of_ble_eq_true rfl) (Nat.le_of_ble_eq_true rfl) hlocks
      · replace hr := (if_neg hc5).symm.trans hr
        obtain rfl := Option.some.inj hr
        exact tp_thrC (k := 1) hx hb hl0 hown (by decide) tp_xC_1 hTB hX hS hP (hl.1.trans hml.symm) dC_write_17 dC_write_20 dC_write_21 dC_write_24 hnoh (Nat.le_of_ble_eq_true rfl) (Nat.le_of_ble_eq_true rfl) (Nat.le_of_ble_eq_true rfl) (Nat.le_of_ble_eq_true rfl) hlocks
set_option maxHeartbeats 4000000 in
set_option maxRecDepth 100000 in
theorem cC_read (l : Launch) (hl0 : l.stackTraces = false) (D : va_G) (h : Nat) (a : Nat → Nat) (cI cZ : ClassId) (sz : Nat) (σ : tp_St) (x1 : Int32) (x2 : Int32) (r : (Nat × Int32 × tp_St)) (hr : fC_read σ x1 x2 = some r) : vx_Met l tp_yC_read (tp_wsT tp_yC_read tp_bC_read 3 (some .int)) { frames := 6, cells := 1, slots := 6, locals := 89 } (tp_PcX D [(cI, .int), (cZ, .boolean)] (tp_wC h a cI cZ σ) sz [.ref h, .int x1, .int x2]) (tp_qTC D h a cI cZ r (va_A (tp_wC h a cI cZ σ) sz)) (tp_qXC [1, 2] D h a cI cZ r (va_A (tp_wC h a cI cZ σ) sz)) 1 6 (va_A (tp_wC h a cI cZ σ) sz) := by
  refine vx_ofW (cc := tp_bC_read) (maxL := 3) (ret := (some .int)) (by decide) rfl ?_
  intro p e s m args below meth c s₁ B hml hnoh0 hv
  obtain ⟨rfl, hsz, hP, hK, hD0, hX⟩ := hv
  have hnoh : ∀ (x : ExceptionTableEntry), x ∈ c.exceptionTable.toList → False := hnoh0
  have hx := B.exec
  have hb := B.bytes
  have hrt := B.returns
  have hTB : ∀ w ∈ tp_TB, w.before _ s = true := fun w z => atoms_spec (ws := (tp_wsT tp_yC_read tp_bC_read 3 (some .int))) B.pre w (List.mem_cons_of_mem _ z)
  have hown : s.vm.findClass tp_RC = some m.cls := findClass_of_methodNamed B.named
  have hlocks := B.notSynchronized
  have S : CallFix p m c tp_bC_read 3 s _ tp_TB tp_RC := ⟨hx, hb, hml, hown, hTB⟩
  subst hsz
  have hD : va_D (va_A (tp_wC h a cI cZ σ) s.heap.size) (tp_wC h a cI cZ σ) := hD0.self
  have hA : ∀ q : Nat, s.heap.size ≤ q → va_A (tp_wC h a cI cZ σ) s.heap.size q := fun q z => Or.inr z
  have hS : va_S (va_A (tp_wC h a cI cZ σ) s.heap.size) s.heap s.heap [] := va_S.rf
  have hl := lv_entry ([.ref h, .int x1, .int x2]) (n := 3) (Nat.le_of_ble_eq_true rfl)
  rw [lg_entry_eq]
  generalize (lg_sl ([.ref h, .int x1, .int x2]) ++ List.replicate (3 - (lg_sl ([.ref h, .int x1, .int x2])).length) Slot.unset).toArray = ls at hl ⊢
  have hl : lv_has ls 3 [(0, .ref h), (1, .int x1), (2, .int x2)] := hl
  rw [fC_read] at hr
  refine lv_aload_n hx hb dC_read_0 rfl (lv_at hl 0 rfl) ?_
  refine lv_iload_n hx hb dC_read_1 rfl (lv_at hl 1 rfl) ?_
  obtain ⟨q1, hq2, hr⟩ := Option.bind_eq_some_iff.mp hr
  refine tp_kP (rest := []) S hK hP hD rfl rfl (cC_isChunk l D h a cI cZ _ σ x1 q1 hq2) (cwV 1 hTB tp_gC_isChunk rfl rfl rfl ⟨rfl, by decide, by decide, by decide +kernel⟩ ⟨Nat.le_of_ble_eq_true rfl, Nat.le_of_ble_eq_true rfl⟩) rfl hl.1 rfl (Nat.le_of_ble_eq_true rfl) dC_read_2 ⟨Nat.zero_le _, Nat.zero_le _⟩ ?_
  refine lv_if_eq (tgt := 17) hx hb dC_read_5 (by decide) (fun hc3 => ?_) (fun hc3 => ?_)
  · replace hr := (if_pos hc3).symm.trans hr
    obtain rfl := Option.some.inj hr
    exact tp_thrC (k := 1) hx hb hl0 hown (by decide) tp_xC_1 hTB hX hS hP (hl.1.trans hml.symm) dC_read_17 dC_read_20 dC_read_21 dC_read_24 hnoh (Nat.le_of_ble_eq_true rfl) (Nat.le_of_ble_eq_true rfl) (Nat.le_of_ble_eq_true rfl) (Nat.le_of_ble_eq_true rfl) hlocks
  · replace hr := (if_neg hc3).symm.trans hr
    refine lv_iload_n hx hb dC_read_8 rfl (lv_at hl 2 rfl) ?_
    refine lv_if_lt (tgt := 17) hx hb dC_read_9 (by decide) (fun hc4 => ?_) (fun hc4 => ?_)
    · replace hr := (if_pos hc4).symm.trans hr
      obtain rfl := Option.some.inj hr
      exact tp_thrC (k := 1) hx hb hl0 hown (by decide) tp_xC_1 hTB hX hS hP (hl.1.trans hml.symm) dC_read_17 dC_read_20 dC_read_21 dC_read_24 hnoh (Nat.le_of_ble_eq_true rfl) (Nat.le_of_ble_eq_true rfl) (Nat.le_of_ble_eq_true rfl) (Nat.le_of_ble_eq_true rfl) hlocks
    · replace hr := (if_neg hc4).symm.trans hr
      refine lv_iload_n hx hb dC_read_12 rfl (lv_at hl 2 rfl) ?_
      refine lv_iconst (v := 4) hx hb dC_read_13 (by decide) ?_
      refine lv_icmp_lt (tgt := 25) hx hb dC_read_14 (by decide) (fun hc5 => ?_) (fun hc5 => ?_)
      · replace hr := (if_pos hc5).symm.trans hr
        refine lv_aload_n hx hb dC_read_25 rfl (lv_at hl 0 rfl) ?_
        refine lv_iload_n hx hb dC_read_26 rfl (lv_at hl 1 rfl) ?_
        obtain ⟨q6, hq7, hr⟩ := Option.bind_eq_some_iff.mp hr
        refine tp_kP (rest := []) S hK hP hD rfl rfl (cC_copiesOf l D h a cI cZ _ σ x1 q6 hq7) (cwV 1 hTB tp_gC_copiesOf rfl rfl rfl ⟨rfl, by decide, by decide, by decide +kernel⟩ ⟨Nat.le_of_ble_eq_true rfl, Nat.le_of_ble_eq_true rfl⟩) rfl hl.1 rfl (Nat.le_of_ble_eq_true rfl) dC_read_27 ⟨Nat.zero_le _, Nat.zero_le _⟩ ?_
        refine lv_if_ne (tgt := 41) hx hb dC_read_30 (by decide) (fun hc8 => ?_) (fun hc8 => ?_)
        · replace hr := (if_neg hc8).symm.trans hr
          refine lv_aload_n hx hb dC_read_41 rfl (lv_at hl 0 rfl) ?_
          refine tp_gtC S hK hP 6 (by decide) (v := .ref (a 6)) tp_mC_f6 rfl dC_read_42 ?_
          refine lv_iload_n hx hb dC_read_45 rfl (lv_at hl 1 rfl) ?_
          refine lv_iconst (v := 4) hx hb dC_read_46 (by decide) ?_
          refine lv_imul hx hb dC_read_47 ?_
          refine lv_iload_n hx hb dC_read_48 rfl (lv_at hl 2 rfl) ?_
          refine lv_iadd hx hb dC_read_49 ?_
          by_cases hb9 : tp_oob ((x1 * 4) + x2) 1600
          · exact nomatch ((if_pos hb9).symm.trans hr)
          replace hr := (if_neg hb9).symm.trans hr
          refine va_iald hx hb hK hP 7 0 rfl rfl hb9 dC_read_50 ?_
          obtain rfl := Option.some.inj hr
          refine vx_ret (W.widen (k := 1) (n := 6) (Nat.zero_le _) (Nat.zero_le _) ?_)
          exact W.iret (v := (σ 6 ((x1 * 4) + x2).toNatClampNeg)) hx hb hrt (fun t ht _ => ⟨⟨(σ 6 ((x1 * 4) + x2).toNatClampNeg), σ, rfl, rfl, by show va_P D tp_CL _ t.heap; rw [ht]; exact hP⟩, hS.F ht⟩) hS.2.2 dC_read_51 hlocks
        · replace hr := (if_pos hc8).symm.trans hr
          obtain rfl := Option.some.inj hr
          exact tp_thrC (k := 2) hx hb hl0 hown (by decide) tp_xC_2 hTB hX hS hP (hl.1.trans hml.symm) dC_read_33 dC_read_36 dC_read_37 dC_read_40 hnoh (Nat.le_of_ble_eq_true rfl) (Nat.le_of_ble_eq_true rfl) (Nat.le_of_ble_eq_true rfl) (Nat.le_of_ble_eq_true rfl) hlocks
      · replace hr := (if_neg hc5).symm.trans hr
        obtain rfl := Option.some.inj hr
        exact tp_thrC (k := 1) hx hb hl0 hown (by decide) tp_xC_1 hTB hX hS hP (hl.1.trans hml.symm) dC_read_17 dC_read_20 dC_read_21 dC_read_24 hnoh (Nat.le_of_ble_eq_true rfl) (Nat.le_of_ble_eq_true rfl) (Nat.le_of_ble_eq_true rfl) (Nat.le_of_ble_eq_true rfl) hlocks
set_option maxHeartbeats 4000000 in
set_option maxRecDepth 100000 in
theorem cC_fail (l : Launch) (hl0 : l.stackTraces = false) (D : va_G) (h : Nat) (a : Nat → Nat) (cI cZ : ClassId) (sz : Nat) (σ : tp_St) (x1 : Int32) (r : (Nat × Int32 × tp_St)) (hr : fC_fail σ x1 = some r) : vx_Met l tp_yC_fail (tp_wsT tp_yC_fail tp_bC_fail 4 (some .int)) { frames := 6, cells := 1, slots := 6, locals := 89 } (tp_PcX D [(cI, .int), (cZ, .boolean)] (tp_wC h a cI cZ σ) sz [.ref h, .int x1]) (tp_qTC D h a cI cZ r (va_A (tp_wC h a cI cZ σ) sz)) (tp_qXC [1] D h a cI cZ r (va_A (tp_wC h a cI cZ σ) sz)) 1 6 (va_A (tp_wC h a cI cZ σ) sz) := by
  refine vx_ofW (cc := tp_bC_fail) (maxL := 4) (ret := (some .int)) (by decide) rfl ?_
  intro p e s m args below meth c s₁ B hml hnoh0 hv
  obtain ⟨rfl, hsz, hP, hK, hD0, hX⟩ := hv
  have hnoh : ∀ (x : ExceptionTableEntry), x ∈ c.exceptionTable.toList → False := hnoh0
  have hx := B.exec
  have hb := B.bytes
  have hrt := B.returns
  have hTB : ∀ w ∈ tp_TB, w.before _ s = true := fun w z => atoms_spec (ws := (tp_wsT tp_yC_fail tp_bC_fail 4 (some .int))) B.pre w (List.mem_cons_of_mem _ z)
  have hown : s.vm.findClass tp_RC = some m.cls := findClass_of_methodNamed B.named
  have hlocks := B.notSynchronized
  have S : CallFix p m c tp_bC_fail 4 s _ tp_TB tp_RC := ⟨hx, hb, hml, hown, hTB⟩
  subst hsz
  have hD : va_D (va_A (tp_wC h a cI cZ σ) s.heap.size) (tp_wC h a cI cZ σ) := hD0.self
  have hA : ∀ q : Nat, s.heap.size ≤ q → va_A (tp_wC h a cI cZ σ) s.heap.size q := fun q z => Or.inr z
  have hS : va_S (va_A (tp_wC h a cI cZ σ) s.heap.size) s.heap s.heap [] := va_S.rf
  have hl := lv_entry ([.ref h, .int x1]) (n := 4) (Nat.le_of_ble_eq_true rfl)
  rw [lg_entry_eq]
  generalize (lg_sl ([.ref h, .int x1]) ++ List.replicate (4 - (lg_sl ([.ref h, .int x1])).length) Slot.unset).toArray = ls at hl ⊢
  have hl : lv_has ls 4 [(0, .ref h), (1, .int x1)] := hl
  rw [fC_fail] at hr
  refine lv_aload_n hx hb dC_fail_0 rfl (lv_at hl 0 rfl) ?_
  refine lv_iload_n hx hb dC_fail_1 rfl (lv_at hl 1 rfl) ?_
  obtain ⟨q1, hq2, hr⟩ := Option.bind_eq_some_iff.mp hr
  refine tp_kP (rest := []) S hK hP hD rfl rfl (cC_isThere l D h a cI cZ _ σ x1 q1 hq2) (cwV 1 hTB tp_gC_isThere rfl rfl rfl ⟨rfl, by decide, by decide, by decide +kernel⟩ ⟨Nat.le_of_ble_eq_true rfl, Nat.le_of_ble_eq_true rfl⟩) rfl hl.1 rfl (Nat.le_of_ble_eq_true rfl) dC_fail_2 ⟨Nat.zero_le _, Nat.zero_le _⟩ ?_
  refine lv_if_ne (tgt := 16) hx hb dC_fail_5 (by decide) (fun hc3 => ?_) (fun hc3 => ?_)
  · replace hr := (if_neg hc3).symm.trans hr
    refine lv_aload_n hx hb dC_fail_16 rfl (lv_at hl 0 rfl) ?_
    refine tp_gtC S hK hP 1 (by decide) (v := .ref (a 1)) tp_mC_f1 rfl dC_fail_17 ?_
    refine lv_iload_n hx hb dC_fail_20 rfl (lv_at hl 1 rfl) ?_
    by_cases hb4 : tp_oob x1 12
    · exact nomatch ((if_pos hb4).symm.trans hr)
    replace hr := (if_neg hb4).symm.trans hr
    refine va_iald hx hb hK hP 2 0 rfl rfl hb4 dC_fail_21 ?_
    refine lv_istore_n hx hb dC_fail_22 rfl hl (by decide) rfl (fun ls hl => ?_)
    have hl : lv_has ls 4 [(2, .int (σ 1 x1.toNatClampNeg)), (0, .ref h), (1, .int x1)] := hl
    refine lv_iconst (v := 0) hx hb dC_fail_23 (by decide) ?_
    refine lv_istore_n hx hb dC_fail_24 rfl hl (by decide) rfl (fun ls hl => ?_)
    have hl : lv_has ls 4 [(3, .int 0), (2, .int (σ 1 x1.toNatClampNeg)), (0, .ref h), (1, .int x1)] := hl
    have loop25 : ∀ (n25 : Nat) (x3 : Int32) (σ25 : tp_St) (H : Heap) (locs : List Loc) (ls : Array Slot), fC_fail_L25 x1 (σ 1 x1.toNatClampNeg) n25 x3 σ25 = some r → lv_has ls 4 [(0, .ref h), (1, .int x1), (2, .int (σ 1 x1.toNatClampNeg)), (3, .int x3)] → va_P D tp_CL (tp_wC h a cI cZ σ25) H → va_D (va_A (tp_wC h a cI cZ σ) s.heap.size) (tp_wC h a cI cZ σ25) → va_S (va_A (tp_wC h a cI cZ σ) s.heap.size) s.heap H locs → W p l e { frames := 6, cells := 1, slots := 6, locals := 89 } s m (([.ref h, .int x1] : List Value).toArray) below meth c H locs 0 0 (vx_MQ below (tp_qTC D h a cI cZ r (va_A (tp_wC h a cI cZ σ) s.heap.size)) (tp_qXC [1] D h a cI cZ r (va_A (tp_wC h a cI cZ σ) s.heap.size)) (([.ref h, .int x1] : List Value).toArray) s 1 6 (va_A (tp_wC h a cI cZ σ) s.heap.size)) (F0 m 25 ls []) := by
      intro n25
      induction n25 with
      | zero => intro x3 σ25 H locs ls hr hl hP hD hS; exact nomatch (show (none : Option (Nat × Int32 × tp_St)) = some r from hr)
      | succ n25 ih25 =>
        intro x3 σ25 H locs ls hr hl hP hD hS
        rw [fC_fail_L25] at hr
        refine lv_iload_n hx hb dC_fail_25 rfl (lv_at hl 3 rfl) ?_
        refine lv_sipush (v := 400) hx hb dC_fail_26 (by decide) ?_
        refine lv_icmp_ge (tgt := 53) hx hb dC_fail_29 (by decide) (fun hc5 => ?_) (fun hc5 => ?_)
        · replace hr := (if_pos hc5).symm.trans hr
          refine lv_aload_n hx hb dC_fail_53 rfl (lv_at hl 0 rfl) ?_
          refine lv_iload_n hx hb dC_fail_54 rfl (lv_at hl 1 rfl) ?_
          obtain ⟨q6, hq7, hr⟩ := Option.bind_eq_some_iff.mp hr
          refine tp_kV (rest := []) S hK hP hD hS hA rfl rfl (cC_takeAway l D h a cI cZ _ σ25 x1 q6 hq7) (cwV 1 hTB tp_gC_takeAway rfl rfl rfl ⟨rfl, by decide, by decide, by decide +kernel⟩ ⟨Nat.le_of_ble_eq_true rfl, Nat.le_of_ble_eq_true rfl⟩) rfl hl.1 rfl (Nat.le_of_ble_eq_true rfl) dC_fail_55 ⟨Nat.zero_le _, Nat.zero_le _⟩ (fun H locs hP hS => ?_)
          have hP : va_P D tp_CL (tp_wC h a cI cZ q6) H := hP
          have hD : va_D (va_A (tp_wC h a cI cZ σ) s.heap.size) (tp_wC h a cI cZ q6) := tp_dre hD tp_wC_fst
          refine lv_iload_n hx hb dC_fail_58 rfl (lv_at hl 2 rfl) ?_
          obtain rfl := Option.some.inj hr
          refine vx_ret (W.widen (k := 1) (n := 6) (Nat.zero_le _) (Nat.zero_le _) ?_)
          exact W.iret (v := (σ 1 x1.toNatClampNeg)) hx hb hrt (fun t ht _ => ⟨⟨(σ 1 x1.toNatClampNeg), q6, rfl, rfl, by show va_P D tp_CL _ t.heap; rw [ht]; exact hP⟩, hS.F ht⟩) hS.2.2 dC_fail_59 hlocks
        · replace hr := (if_neg hc5).symm.trans hr
          refine lv_aload_n hx hb dC_fail_32 rfl (lv_at hl 0 rfl) ?_
          refine lv_iload_n hx hb dC_fail_33 rfl (lv_at hl 3 rfl) ?_
          refine lv_iload_n hx hb dC_fail_34 rfl (lv_at hl 1 rfl) ?_
          obtain ⟨q8, hq9, hr⟩ := Option.bind_eq_some_iff.mp hr
          refine tp_kP (rest := []) S hK hP hD rfl rfl (cC_isOn l D h a cI cZ _ σ25 x3 x1 q8 hq9) (cwV 2 hTB tp_gC_isOn rfl rfl rfl ⟨rfl, by decide, by decide, by decide +kernel⟩ ⟨Nat.le_of_ble_eq_true rfl, Nat.le_of_ble_eq_true rfl⟩) rfl hl.1 rfl (Nat.le_of_ble_eq_true rfl) dC_fail_35 ⟨Nat.zero_le _, Nat.zero_le _⟩ ?_
          refine lv_if_eq (tgt := 47) hx hb dC_fail_38 (by decide) (fun hc10 => ?_) (fun hc10 => ?_)
          · replace hr := (if_pos hc10).symm.trans hr
            refine lv_iinc (k := 3) (v := (x3 + 1)) hx hb dC_fail_47 hl rfl (tp_ii1 _) (by decide) rfl (fun ls hl => ?_)
            have hl : lv_has ls 4 [(3, .int (x3 + 1)), (0, .ref h), (1, .int x1), (2, .int (σ 1 x1.toNatClampNeg))] := hl
            refine lv_goto (tgt := 25) hx hb dC_fail_50 (by decide) ?_
            exact ih25 (x3 + 1) σ25 H locs ls hr (lv_sub hl [1, 2, 3, 0] rfl) hP hD hS
          · replace hr := (if_neg hc10).symm.trans hr
            refine lv_aload_n hx hb dC_fail_41 rfl (lv_at hl 0 rfl) ?_
            refine lv_iload_n hx hb dC_fail_42 rfl (lv_at hl 3 rfl) ?_
            refine lv_iload_n hx hb dC_fail_43 rfl (lv_at hl 1 rfl) ?_
            obtain ⟨q11, hq12, hr⟩ := Option.bind_eq_some_iff.mp hr
            refine tp_kV (rest := []) S hK hP hD hS hA rfl rfl (cC_dropCopy l D h a cI cZ _ σ25 x3 x1 q11 hq12) (cwV 2 hTB tp_gC_dropCopy rfl rfl rfl ⟨rfl, by decide, by decide, by decide +kernel⟩ ⟨Nat.le_of_ble_eq_true rfl, Nat.le_of_ble_eq_true rfl⟩) rfl hl.1 rfl (Nat.le_of_ble_eq_true rfl) dC_fail_44 ⟨Nat.zero_le _, Nat.zero_le _⟩ (fun H locs hP hS => ?_)
            have hP : va_P D tp_CL (tp_wC h a cI cZ q11) H := hP
            have hD : va_D (va_A (tp_wC h a cI cZ σ) s.heap.size) (tp_wC h a cI cZ q11) := tp_dre hD tp_wC_fst
            refine lv_iinc (k := 3) (v := (x3 + 1)) hx hb dC_fail_47 hl rfl (tp_ii1 _) (by decide) rfl (fun ls hl => ?_)
            have hl : lv_has ls 4 [(3, .int (x3 + 1)), (0, .ref h), (1, .int x1), (2, .int (σ 1 x1.toNatClampNeg))] := hl
            refine lv_goto (tgt := 25) hx hb dC_fail_50 (by decide) ?_
            exact ih25 (x3 + 1) q11 H locs ls hr (lv_sub hl [1, 2, 3, 0] rfl) hP hD hS
    exact loop25 401 0 σ _ _ ls hr (lv_sub hl [2, 3, 1, 0] rfl) hP hD hS
  · replace hr := (if_pos hc3).symm.trans hr
    obtain rfl := Option.some.inj hr
    exact tp_thrC (k := 1) hx hb hl0 hown (by decide) tp_xC_1 hTB hX hS hP (hl.1.trans hml.symm) dC_fail_8 dC_fail_11 dC_fail_12 dC_fail_15 hnoh (Nat.le_of_ble_eq_true rfl) (Nat.le_of_ble_eq_true rfl) (Nat.le_of_ble_eq_true rfl) (Nat.le_of_ble_eq_true rfl) hlocks
set_option maxHeartbeats 4000000 in
set_option maxRecDepth 100000 in
theorem cC_chunksWith (l : Launch) (D : va_G) (h : Nat) (a : Nat → Nat) (cI cZ : ClassId) (sz : Nat) (σ : tp_St) (x1 : Int32) (r : Int32) (hr : fC_chunksWith σ x1 = some r) : Met l tp_yC_chunksWith (tp_wsT tp_yC_chunksWith tp_bC_chunksWith 4 (some .int)) { frames := 1, cells := 0, slots := 0, locals := 21 } (tp_PcW D [(cI, .int), (cZ, .boolean)] (tp_wC h a cI cZ σ) sz [.ref h, .int x1]) (tp_qI r) 0 0 tp_noF := by
  refine Met.ofW (cc := tp_bC_chunksWith) (maxL := 4) (ret := (some .int)) (by decide) rfl ?_
  intro p e s m args below meth c s₁ B hml hv
  obtain ⟨rfl, hsz, hP, hK, hD0⟩ := hv
  have hx := B.exec
  have hb := B.bytes
  have hrt := B.returns
  have hTB : ∀ w ∈ tp_TB, w.before _ s = true := fun w z => atoms_spec (ws := (tp_wsT tp_yC_chunksWith tp_bC_chunksWith 4 (some .int))) B.pre w (List.mem_cons_of_mem _ z)
  have hown : s.vm.findClass tp_RC = some m.cls := findClass_of_methodNamed B.named
  have hlocks := B.notSynchronized
  have S : CallFix p m c tp_bC_chunksWith 4 s _ tp_TB tp_RC := ⟨hx, hb, hml, hown, hTB⟩
  subst hsz
  have hD : va_D (va_A (tp_wC h a cI cZ σ) s.heap.size) (tp_wC h a cI cZ σ) := hD0.self
  have hl := lv_entry ([.ref h, .int x1]) (n := 4) (Nat.le_of_ble_eq_true rfl)
  rw [lg_entry_eq]
  generalize (lg_sl ([.ref h, .int x1]) ++ List.replicate (4 - (lg_sl ([.ref h, .int x1])).length) Slot.unset).toArray = ls at hl ⊢
  have hl : lv_has ls 4 [(0, .ref h), (1, .int x1)] := hl
  rw [fC_chunksWith] at hr
  refine lv_iconst (v := 0) hx hb dC_chunksWith_0 (by decide) ?_
  refine lv_istore_n hx hb dC_chunksWith_1 rfl hl (by decide) rfl (fun ls hl => ?_)
  have hl : lv_has ls 4 [(2, .int 0), (0, .ref h), (1, .int x1)] := hl
  refine lv_iconst (v := 0) hx hb dC_chunksWith_2 (by decide) ?_
  refine lv_istore_n hx hb dC_chunksWith_3 rfl hl (by decide) rfl (fun ls hl => ?_)
  have hl : lv_has ls 4 [(3, .int 0), (2, .int 0), (0, .ref h), (1, .int x1)] := hl
  have loop4 : ∀ (n4 : Nat) (x2 : Int32) (x3 : Int32) (ls : Array Slot), fC_chunksWith_L4 σ x1 n4 x2 x3 = some r → lv_has ls 4 [(0, .ref h), (1, .int x1), (2, .int x2), (3, .int x3)] → W p l e { frames := 1, cells := 0, slots := 0, locals := 21 } s m (([.ref h, .int x1] : List Value).toArray) below meth c s.heap [] 0 0 (MQ below (tp_qI r) (([.ref h, .int x1] : List Value).toArray) s 0 0 tp_noF) (F0 m 4 ls []) := by
    intro n4
    induction n4 with
    | zero => intro x2 x3 ls hr hl; exact nomatch (show (none : Option Int32) = some r from hr)
    | succ n4 ih4 =>
      intro x2 x3 ls hr hl
      rw [fC_chunksWith_L4] at hr
      refine lv_iload_n hx hb dC_chunksWith_4 rfl (lv_at hl 3 rfl) ?_
      refine lv_sipush (v := 400) hx hb dC_chunksWith_5 (by decide) ?_
      refine lv_icmp_ge (tgt := 38) hx hb dC_chunksWith_8 (by decide) (fun hc1 => ?_) (fun hc1 => ?_)
      · replace hr := (if_pos hc1).symm.trans hr
        refine lv_iload_n hx hb dC_chunksWith_38 rfl (lv_at hl 2 rfl) ?_
        obtain rfl := Option.some.inj hr
        exact W.iret (v := x2) hx hb hrt (fun t ht _ => ⟨rfl, ht⟩) (fun _ z => nomatch z) dC_chunksWith_39 hlocks
      · replace hr := (if_neg hc1).symm.trans hr
        refine lv_aload_n hx hb dC_chunksWith_11 rfl (lv_at hl 0 rfl) ?_
        refine tp_gtC S hK hP 3 (by decide) (v := .ref (a 3)) tp_mC_f3 rfl dC_chunksWith_12 ?_
        refine lv_iload_n hx hb dC_chunksWith_15 rfl (lv_at hl 3 rfl) ?_
        by_cases hb2 : tp_oob x3 400
        · exact nomatch ((if_pos hb2).symm.trans hr)
        replace hr := (if_neg hb2).symm.trans hr
        refine va_zald hx hb hK hP 4 1 rfl rfl hb2 dC_chunksWith_16 ?_
        refine lv_if_eq (tgt := 32) hx hb dC_chunksWith_17 (by decide) (fun hc3 => ?_) (fun hc3 => ?_)
        · replace hr := (if_pos hc3).symm.trans hr
          refine lv_iinc (k := 3) (v := (x3 + 1)) hx hb dC_chunksWith_32 hl rfl (tp_ii1 _) (by decide) rfl (fun ls hl => ?_)
          have hl : lv_has ls 4 [(3, .int (x3 + 1)), (0, .ref h), (1, .int x1), (2, .int x2)] := hl
          refine lv_goto (tgt := 4) hx hb dC_chunksWith_35 (by decide) ?_
          exact ih4 x2 (x3 + 1) ls hr (lv_sub hl [1, 2, 3, 0] rfl)
        · replace hr := (if_neg hc3).symm.trans hr
          refine lv_aload_n hx hb dC_chunksWith_20 rfl (lv_at hl 0 rfl) ?_
          refine lv_iload_n hx hb dC_chunksWith_21 rfl (lv_at hl 3 rfl) ?_
          obtain ⟨q4, hq5, hr⟩ := Option.bind_eq_some_iff.mp hr
          refine tp_kP (rest := []) S hK hP hD rfl rfl (cC_copiesOf l D h a cI cZ _ σ x3 q4 hq5) (cwV 1 hTB tp_gC_copiesOf rfl rfl rfl ⟨rfl, by decide, by decide, by decide +kernel⟩ ⟨Nat.le_of_ble_eq_true rfl, Nat.le_of_ble_eq_true rfl⟩) rfl hl.1 rfl (Nat.le_of_ble_eq_true rfl) dC_chunksWith_22 ⟨Nat.zero_le _, Nat.zero_le _⟩ ?_
          refine lv_iload_n hx hb dC_chunksWith_25 rfl (lv_at hl 1 rfl) ?_
          refine lv_icmp_ne (tgt := 32) hx hb dC_chunksWith_26 (by decide) (fun hc6 => ?_) (fun hc6 => ?_)
          · replace hr := (if_neg hc6).symm.trans hr
            refine lv_iinc (k := 3) (v := (x3 + 1)) hx hb dC_chunksWith_32 hl rfl (tp_ii1 _) (by decide) rfl (fun ls hl => ?_)
            have hl : lv_has ls 4 [(3, .int (x3 + 1)), (0, .ref h), (1, .int x1), (2, .int x2)] := hl
            refine lv_goto (tgt := 4) hx hb dC_chunksWith_35 (by decide) ?_
            exact ih4 x2 (x3 + 1) ls hr (lv_sub hl [1, 2, 3, 0] rfl)
          · replace hr := (if_pos hc6).symm.trans hr
            refine lv_iinc (k := 2) (v := (x2 + 1)) hx hb dC_chunksWith_29 hl rfl (tp_ii1 _) (by decide) rfl (fun ls hl => ?_)
            have hl : lv_has ls 4 [(2, .int (x2 + 1)), (0, .ref h), (1, .int x1), (3, .int x3)] := hl
            refine lv_iinc (k := 3) (v := (x3 + 1)) hx hb dC_chunksWith_32 hl rfl (tp_ii1 _) (by decide) rfl (fun ls hl => ?_)
            have hl : lv_has ls 4 [(3, .int (x3 + 1)), (2, .int (x2 + 1)), (0, .ref h), (1, .int x1)] := hl
            refine lv_goto (tgt := 4) hx hb dC_chunksWith_35 (by decide) ?_
            exact ih4 (x2 + 1) (x3 + 1) ls hr (lv_sub hl [2, 3, 1, 0] rfl)
  exact loop4 401 0 0 ls hr (lv_sub hl [2, 3, 1, 0] rfl)
set_option maxHeartbeats 4000000 in
set_option maxRecDepth 100000 in
theorem cC_allChunks (l : Launch) (D : va_G) (h : Nat) (a : Nat → Nat) (cI cZ : ClassId) (sz : Nat) (σ : tp_St) (r : Int32) (hr : fC_allChunks σ = some r) : Met l tp_yC_allChunks (tp_wsT tp_yC_allChunks tp_bC_allChunks 3 (some .int)) { frames := 0, cells := 0, slots := 0, locals := 0 } (tp_PcW D [(cI, .int), (cZ, .boolean)] (tp_wC h a cI cZ σ) sz [.ref h]) (tp_qI r) 0 0 tp_noF := by
  refine Met.ofW (cc := tp_bC_allChunks) (maxL := 3) (ret := (some .int)) (by decide) rfl ?_
  intro p e s m args below meth c s₁ B hml hv
  obtain ⟨rfl, hsz, hP, hK, hD0⟩ := hv
  have hx := B.exec
  have hb := B.bytes
  have hrt := B.returns
  have hTB : ∀ w ∈ tp_TB, w.before _ s = true := fun w z => atoms_spec (ws := (tp_wsT tp_yC_allChunks tp_bC_allChunks 3 (some .int))) B.pre w (List.mem_cons_of_mem _ z)
  have hown : s.vm.findClass tp_RC = some m.cls := findClass_of_methodNamed B.named
  have hlocks := B.notSynchronized
  have S : CallFix p m c tp_bC_allChunks 3 s _ tp_TB tp_RC := ⟨hx, hb, hml, hown, hTB⟩
  subst hsz
  have hD : va_D (va_A (tp_wC h a cI cZ σ) s.heap.size) (tp_wC h a cI cZ σ) := hD0.self
  have hl := lv_entry ([.ref h]) (n := 3) (Nat.le_of_ble_eq_true rfl)
  rw [lg_entry_eq]
  generalize (lg_sl ([.ref h]) ++ List.replicate (3 - (lg_sl ([.ref h])).length) Slot.unset).toArray = ls at hl ⊢
  have hl : lv_has ls 3 [(0, .ref h)] := hl
  rw [fC_allChunks] at hr
  refine lv_iconst (v := 0) hx hb dC_allChunks_0 (by decide) ?_
  refine lv_istore_n hx hb dC_allChunks_1 rfl hl (by decide) rfl (fun ls hl => ?_)
  have hl : lv_has ls 3 [(1, .int 0), (0, .ref h)] := hl
  refine lv_iconst (v := 0) hx hb dC_allChunks_2 (by decide) ?_
  refine lv_istore_n hx hb dC_allChunks_3 rfl hl (by decide) rfl (fun ls hl => ?_)
  have hl : lv_has ls 3 [(2, .int 0), (1, .int 0), (0, .ref h)] := hl
  have loop4 : ∀ (n4 : Nat) (x1 : Int32) (x2 : Int32) (ls : Array Slot), fC_allChunks_L4 σ  n4 x1 x2 = some r → lv_has ls 3 [(0, .ref h), (1, .int x1), (2, .int x2)] → W p l e { frames := 0, cells := 0, slots := 0, locals := 0 } s m (([.ref h] : List Value).toArray) below meth c s.heap [] 0 0 (MQ below (tp_qI r) (([.ref h] : List Value).toArray) s 0 0 tp_noF) (F0 m 4 ls []) := by
    intro n4
    induction n4 with
    | zero => intro x1 x2 ls hr hl; exact nomatch (show (none : Option Int32) = some r from hr)
    | succ n4 ih4 =>
      intro x1 x2 ls hr hl
      rw [fC_allChunks_L4] at hr
      refine lv_iload_n hx hb dC_allChunks_4 rfl (lv_at hl 2 rfl) ?_
      refine lv_sipush (v := 400) hx hb dC_allChunks_5 (by decide) ?_
      refine lv_icmp_ge (tgt := 29) hx hb dC_allChunks_8 (by decide) (fun hc1 => ?_) (fun hc1 => ?_)
      · replace hr := (if_pos hc1).symm.trans hr
        refine lv_iload_n hx hb dC_allChunks_29 rfl (lv_at hl 1 rfl) ?_
        obtain rfl := Option.some.inj hr
        exact W.iret (v := x1) hx hb hrt (fun t ht _ => ⟨rfl, ht⟩) (fun _ z => nomatch z) dC_allChunks_30 hlocks
      · replace hr := (if_neg hc1).symm.trans hr
        refine lv_aload_n hx hb dC_allChunks_11 rfl (lv_at hl 0 rfl) ?_
        refine tp_gtC S hK hP 3 (by decide) (v := .ref (a 3)) tp_mC_f3 rfl dC_allChunks_12 ?_
        refine lv_iload_n hx hb dC_allChunks_15 rfl (lv_at hl 2 rfl) ?_
        by_cases hb2 : tp_oob x2 400
        · exact nomatch ((if_pos hb2).symm.trans hr)
        replace hr := (if_neg hb2).symm.trans hr
        refine va_zald hx hb hK hP 4 1 rfl rfl hb2 dC_allChunks_16 ?_
        refine lv_if_eq (tgt := 23) hx hb dC_allChunks_17 (by decide) (fun hc3 => ?_) (fun hc3 => ?_)
        · replace hr := (if_pos hc3).symm.trans hr
          refine lv_iinc (k := 2) (v := (x2 + 1)) hx hb dC_allChunks_23 hl rfl (tp_ii1 _) (by decide) rfl (fun ls hl => ?_)
          have hl : lv_has ls 3 [(2, .int (x2 + 1)), (0, .ref h), (1, .int x1)] := hl
          refine lv_goto (tgt := 4) hx hb dC_allChunks_26 (by decide) ?_
          exact ih4 x1 (x2 + 1) ls hr (lv_sub hl [1, 2, 0] rfl)
        · replace hr := (if_neg hc3).symm.trans hr
          refine lv_iinc (k := 1) (v := (x1 + 1)) hx hb dC_allChunks_20 hl rfl (tp_ii1 _) (by decide) rfl (fun ls hl => ?_)
          have hl : lv_has ls 3 [(1, .int (x1 + 1)), (0, .ref h), (2, .int x2)] := hl
          refine lv_iinc (k := 2) (v := (x2 + 1)) hx hb dC_allChunks_23 hl rfl (tp_ii1 _) (by decide) rfl (fun ls hl => ?_)
          have hl : lv_has ls 3 [(2, .int (x2 + 1)), (1, .int (x1 + 1)), (0, .ref h)] := hl
          refine lv_goto (tgt := 4) hx hb dC_allChunks_26 (by decide) ?_
          exact ih4 (x1 + 1) (x2 + 1) ls hr (lv_sub hl [2, 1, 0] rfl)
  exact loop4 401 0 0 ls hr (lv_sub hl [2, 1, 0] rfl)
