set_option maxHeartbeats 4000000 in
set_option maxRecDepth 100000 in
theorem cC_takeAway (l : Launch) (D : va_G) (h : Nat) (a : Nat → Nat) (cI cZ : ClassId) (sz : Nat) (σ : tp_St) (x1 : Int32) (r : tp_St) (hr : fC_takeAway σ x1 = some r) : Met l tp_yC_takeAway (tp_wsT tp_yC_takeAway tp_bC_takeAway 2 none) { frames := 0, cells := 0, slots := 0, locals := 0 } (tp_PcW D [(cI, .int), (cZ, .boolean)] (tp_wC h a cI cZ σ) sz [.ref h, .int x1]) (tp_qW none D (tp_wC h a cI cZ r) (va_A (tp_wC h a cI cZ σ) sz)) 0 0 (va_A (tp_wC h a cI cZ σ) sz) := by
  refine Met.ofW (cc := tp_bC_takeAway) (maxL := 2) (ret := none) (by decide) rfl ?_
  intro p e s m args below meth c s₁ B hml hv
  obtain ⟨rfl, hsz, hP, hK, hD0⟩ := hv
  have hx := B.exec
  have hb := B.bytes
  have hrt := B.returns
  have hTB : ∀ w ∈ tp_TB, w.before _ s = true := fun w z => atoms_spec (ws := (tp_wsT tp_yC_takeAway tp_bC_takeAway 2 none)) B.pre w (List.mem_cons_of_mem _ z)
  have hown : s.vm.findClass tp_RC = some m.cls := findClass_of_methodNamed B.named
  have hlocks := B.notSynchronized
  have S : CallFix p m c tp_bC_takeAway 2 s _ tp_TB tp_RC := ⟨hx, hb, hml, hown, hTB⟩
  subst hsz
  have hD : va_D (va_A (tp_wC h a cI cZ σ) s.heap.size) (tp_wC h a cI cZ σ) := hD0.self
  have hA : ∀ q : Nat, s.heap.size ≤ q → va_A (tp_wC h a cI cZ σ) s.heap.size q := fun q z => Or.inr z
  have hS : va_S (va_A (tp_wC h a cI cZ σ) s.heap.size) s.heap s.heap [] := va_S.rf
  have hl := lv_entry ([.ref h, .int x1]) (n := 2) (Nat.le_of_ble_eq_true rfl)
  rw [lg_entry_eq]
  generalize (lg_sl ([.ref h, .int x1]) ++ List.replicate (2 - (lg_sl ([.ref h, .int x1])).length) Slot.unset).toArray = ls at hl ⊢
  have hl : lv_has ls 2 [(0, .ref h), (1, .int x1)] := hl
  rw [fC_takeAway] at hr
  refine lv_aload_n hx hb dC_takeAway_0 rfl (lv_at hl 0 rfl) ?_
  refine tp_gtC S hK hP 0 (by decide) (v := .ref (a 0)) tp_mC_f0 rfl dC_takeAway_1 ?_
  refine lv_iload_n hx hb dC_takeAway_4 rfl (lv_at hl 1 rfl) ?_
  refine lv_iconst (v := 0) hx hb dC_takeAway_5 (by decide) ?_
  by_cases hb1 : tp_oob x1 12
  · exact nomatch ((if_pos hb1).symm.trans hr)
  replace hr := (if_neg hb1).symm.trans hr
  refine tp_asC0 S hK hP hD hS hb1 dC_takeAway_6 (fun H locs hP hD hS => ?_)
  refine lv_aload_n hx hb dC_takeAway_7 rfl (lv_at hl 0 rfl) ?_
  refine tp_gtC S hK hP 2 (by decide) (v := .ref (a 2)) tp_mC_f2 rfl dC_takeAway_8 ?_
  refine lv_iload_n hx hb dC_takeAway_11 rfl (lv_at hl 1 rfl) ?_
  refine lv_iconst (v := 0) hx hb dC_takeAway_12 (by decide) ?_
  refine tp_asC2 S hK hP hD hS hb1 dC_takeAway_13 (fun H locs hP hD hS => ?_)
  obtain rfl := Option.some.inj hr
  exact W.vret hx hb hrt (fun t ht _ => ⟨rfl, by rw [ht]; exact hP, hS.F ht⟩) hS.2.2 dC_takeAway_14 hlocks
set_option maxHeartbeats 4000000 in
set_option maxRecDepth 100000 in
theorem cC_dropCopy (l : Launch) (D : va_G) (h : Nat) (a : Nat → Nat) (cI cZ : ClassId) (sz : Nat) (σ : tp_St) (x1 : Int32) (x2 : Int32) (r : tp_St) (hr : fC_dropCopy σ x1 x2 = some r) : Met l tp_yC_dropCopy (tp_wsT tp_yC_dropCopy tp_bC_dropCopy 3 none) { frames := 1, cells := 0, slots := 0, locals := 22 } (tp_PcW D [(cI, .int), (cZ, .boolean)] (tp_wC h a cI cZ σ) sz [.ref h, .int x1, .int x2]) (tp_qW none D (tp_wC h a cI cZ r) (va_A (tp_wC h a cI cZ σ) sz)) 0 0 (va_A (tp_wC h a cI cZ σ) sz) := by
  refine Met.ofW (cc := tp_bC_dropCopy) (maxL := 3) (ret := none) (by decide) rfl ?_
  intro p e s m args below meth c s₁ B hml hv
  obtain ⟨rfl, hsz, hP, hK, hD0⟩ := hv
  have hx := B.exec
  have hb := B.bytes
  have hrt := B.returns
  have hTB : ∀ w ∈ tp_TB, w.before _ s = true := fun w z => atoms_spec (ws := (tp_wsT tp_yC_dropCopy tp_bC_dropCopy 3 none)) B.pre w (List.mem_cons_of_mem _ z)
  have hown : s.vm.findClass tp_RC = some m.cls := findClass_of_methodNamed B.named
  have hlocks := B.notSynchronized
  have S : CallFix p m c tp_bC_dropCopy 3 s _ tp_TB tp_RC := ⟨hx, hb, hml, hown, hTB⟩
  subst hsz
  have hD : va_D (va_A (tp_wC h a cI cZ σ) s.heap.size) (tp_wC h a cI cZ σ) := hD0.self
  have hA : ∀ q : Nat, s.heap.size ≤ q → va_A (tp_wC h a cI cZ σ) s.heap.size q := fun q z => Or.inr z
  have hS : va_S (va_A (tp_wC h a cI cZ σ) s.heap.size) s.heap s.heap [] := va_S.rf
  have hl := lv_entry ([.ref h, .int x1, .int x2]) (n := 3) (Nat.le_of_ble_eq_true rfl)
  rw [lg_entry_eq]
  generalize (lg_sl ([.ref h, .int x1, .int x2]) ++ List.replicate (3 - (lg_sl ([.ref h, .int x1, .int x2])).length) Slot.unset).toArray = ls at hl ⊢
  have hl : lv_has ls 3 [(0, .ref h), (1, .int x1), (2, .int x2)] := hl
  rw [fC_dropCopy] at hr
  refine lv_aload_n hx hb dC_dropCopy_0 rfl (lv_at hl 0 rfl) ?_
  refine tp_gtC S hK hP 4 (by decide) (v := .ref (a 4)) tp_mC_f4 rfl dC_dropCopy_1 ?_
  refine lv_iload_n hx hb dC_dropCopy_4 rfl (lv_at hl 1 rfl) ?_
  refine lv_aload_n hx hb dC_dropCopy_5 rfl (lv_at hl 0 rfl) ?_
  refine lv_iload_n hx hb dC_dropCopy_6 rfl (lv_at hl 1 rfl) ?_
  refine lv_iload_n hx hb dC_dropCopy_7 rfl (lv_at hl 2 rfl) ?_
  obtain ⟨q1, hq2, hr⟩ := Option.bind_eq_some_iff.mp hr
  refine tp_kP (rest := [.int x1, .ref (a 4)]) S hK hP hD rfl rfl (cC_otherThan l D h a cI cZ _ σ x1 x2 q1 hq2) (cwV 2 hTB tp_gC_otherThan rfl rfl rfl ⟨rfl, by decide, by decide, by decide +kernel⟩ ⟨Nat.le_of_ble_eq_true rfl, Nat.le_of_ble_eq_true rfl⟩) rfl hl.1 rfl (Nat.le_of_ble_eq_true rfl) dC_dropCopy_8 ⟨Nat.zero_le _, Nat.zero_le _⟩ ?_
  by_cases hb3 : tp_oob x1 400
  · exact nomatch ((if_pos hb3).symm.trans hr)
  replace hr := (if_neg hb3).symm.trans hr
  refine tp_asC4 S hK hP hD hS hb3 dC_dropCopy_11 (fun H locs hP hD hS => ?_)
  refine lv_aload_n hx hb dC_dropCopy_12 rfl (lv_at hl 0 rfl) ?_
  refine tp_gtC S hK hP 5 (by decide) (v := .ref (a 5)) tp_mC_f5 rfl dC_dropCopy_13 ?_
  refine lv_iload_n hx hb dC_dropCopy_16 rfl (lv_at hl 1 rfl) ?_
  refine lv_iconst (v := (-1)) hx hb dC_dropCopy_17 (by decide) ?_
  refine tp_asC5 S hK hP hD hS hb3 dC_dropCopy_18 (fun H locs hP hD hS => ?_)
  refine lv_aload_n hx hb dC_dropCopy_19 rfl (lv_at hl 0 rfl) ?_
  refine tp_gtC S hK hP 1 (by decide) (v := .ref (a 1)) tp_mC_f1 rfl dC_dropCopy_20 ?_
  refine lv_iload_n hx hb dC_dropCopy_23 rfl (lv_at hl 2 rfl) ?_
  refine lv_dup2_11 hx hb dC_dropCopy_24 rfl rfl ?_
  by_cases hb4 : tp_oob x2 12
  · exact nomatch ((if_pos hb4).symm.trans hr)
  replace hr := (if_neg hb4).symm.trans hr
  refine va_iald hx hb hK hP 2 0 rfl rfl hb4 dC_dropCopy_25 ?_
  refine lv_iconst (v := 1) hx hb dC_dropCopy_26 (by decide) ?_
  refine lv_isub hx hb dC_dropCopy_27 ?_
  refine tp_asC1 S hK hP hD hS hb4 dC_dropCopy_28 (fun H locs hP hD hS => ?_)
  refine lv_aload_n hx hb dC_dropCopy_29 rfl (lv_at hl 0 rfl) ?_
  refine lv_iload_n hx hb dC_dropCopy_30 rfl (lv_at hl 2 rfl) ?_
  obtain ⟨q5, hq6, hr⟩ := Option.bind_eq_some_iff.mp hr
  refine tp_kP (rest := []) S hK hP hD rfl rfl (cC_hasLeft l D h a cI cZ _ (tp_up (tp_up (tp_up σ 4 x1.toNatClampNeg q1) 5 x1.toNatClampNeg (-1)) 1 x2.toNatClampNeg (((tp_up (tp_up σ 4 x1.toNatClampNeg q1) 5 x1.toNatClampNeg (-1)) 1 x2.toNatClampNeg) - 1)) x2 q5 hq6) (cwV 1 hTB tp_gC_hasLeft rfl rfl rfl ⟨rfl, by decide, by decide, by decide +kernel⟩ ⟨Nat.le_of_ble_eq_true rfl, Nat.le_of_ble_eq_true rfl⟩) rfl hl.1 rfl (Nat.le_of_ble_eq_true rfl) dC_dropCopy_31 ⟨Nat.zero_le _, Nat.zero_le _⟩ ?_
  refine lv_if_eq (tgt := 42) hx hb dC_dropCopy_34 (by decide) (fun hc7 => ?_) (fun hc7 => ?_)
  · replace hr := (if_pos hc7).symm.trans hr
    obtain rfl := Option.some.inj hr
    exact W.vret hx hb hrt (fun t ht _ => ⟨rfl, by rw [ht]; exact hP, hS.F ht⟩) hS.2.2 dC_dropCopy_42 hlocks
  · replace hr := (if_neg hc7).symm.trans hr
    refine lv_aload_n hx hb dC_dropCopy_37 rfl (lv_at hl 0 rfl) ?_
    refine lv_iload_n hx hb dC_dropCopy_38 rfl (lv_at hl 2 rfl) ?_
    obtain ⟨q8, hq9, hr⟩ := Option.bind_eq_some_iff.mp hr
    refine tp_kV (rest := []) S hK hP hD hS hA rfl rfl (cC_takeAway l D h a cI cZ _ (tp_up (tp_up (tp_up σ 4 x1.toNatClampNeg q1) 5 x1.toNatClampNeg (-1)) 1 x2.toNatClampNeg (((tp_up (tp_up σ 4 x1.toNatClampNeg q1) 5 x1.toNatClampNeg (-1)) 1 x2.toNatClampNeg) - 1)) x2 q8 hq9) (cwV 1 hTB tp_gC_takeAway rfl rfl rfl ⟨rfl, by decide, by decide, by decide +kernel⟩ ⟨Nat.le_of_ble_eq_true rfl, Nat.le_of_ble_eq_true rfl⟩) rfl hl.1 rfl (Nat.le_of_ble_eq_true rfl) dC_dropCopy_39 ⟨Nat.zero_le _, Nat.zero_le _⟩ (fun H locs hP hS => ?_)
    have hP : va_P D tp_CL (tp_wC h a cI cZ q8) H := hP
    have hD : va_D (va_A (tp_wC h a cI cZ σ) s.heap.size) (tp_wC h a cI cZ q8) := tp_dre hD tp_wC_fst
    obtain rfl := Option.some.inj hr
    exact W.vret hx hb hrt (fun t ht _ => ⟨rfl, by rw [ht]; exact hP, hS.F ht⟩) hS.2.2 dC_dropCopy_42 hlocks
set_option maxHeartbeats 4000000 in
set_option maxRecDepth 100000 in
theorem cC_addCopy (l : Launch) (D : va_G) (h : Nat) (a : Nat → Nat) (cI cZ : ClassId) (sz : Nat) (σ : tp_St) (x1 : Int32) (x2 : Int32) (r : tp_St) (hr : fC_addCopy σ x1 x2 = some r) : Met l tp_yC_addCopy (tp_wsT tp_yC_addCopy tp_bC_addCopy 4 none) { frames := 1, cells := 0, slots := 0, locals := 21 } (tp_PcW D [(cI, .int), (cZ, .boolean)] (tp_wC h a cI cZ σ) sz [.ref h, .int x1, .int x2]) (tp_qW none D (tp_wC h a cI cZ r) (va_A (tp_wC h a cI cZ σ) sz)) 0 0 (va_A (tp_wC h a cI cZ σ) sz) := by
  refine Met.ofW (cc := tp_bC_addCopy) (maxL := 4) (ret := none) (by decide) rfl ?_
  intro p e s m args below meth c s₁ B hml hv
  obtain ⟨rfl, hsz, hP, hK, hD0⟩ := hv
  have hx := B.exec
  have hb := B.bytes
  have hrt := B.returns
  have hTB : ∀ w ∈ tp_TB, w.before _ s = true := fun w z => atoms_spec (ws := (tp_wsT tp_yC_addCopy tp_bC_addCopy 4 none)) B.pre w (List.mem_cons_of_mem _ z)
  have hown : s.vm.findClass tp_RC = some m.cls := findClass_of_methodNamed B.named
  have hlocks := B.notSynchronized
  have S : CallFix p m c tp_bC_addCopy 4 s _ tp_TB tp_RC := ⟨hx, hb, hml, hown, hTB⟩
  subst hsz
  have hD : va_D (va_A (tp_wC h a cI cZ σ) s.heap.size) (tp_wC h a cI cZ σ) := hD0.self
  have hA : ∀ q : Nat, s.heap.size ≤ q → va_A (tp_wC h a cI cZ σ) s.heap.size q := fun q z => Or.inr z
  have hS : va_S (va_A (tp_wC h a cI cZ σ) s.heap.size) s.heap s.heap [] := va_S.rf
  have hl := lv_entry ([.ref h, .int x1, .int x2]) (n := 4) (Nat.le_of_ble_eq_true rfl)
  rw [lg_entry_eq]
  generalize (lg_sl ([.ref h, .int x1, .int x2]) ++ List.replicate (4 - (lg_sl ([.ref h, .int x1, .int x2])).length) Slot.unset).toArray = ls at hl ⊢
  have hl : lv_has ls 4 [(0, .ref h), (1, .int x1), (2, .int x2)] := hl
  rw [fC_addCopy] at hr
  refine lv_aload_n hx hb dC_addCopy_0 rfl (lv_at hl 0 rfl) ?_
  refine tp_gtC S hK hP 4 (by decide) (v := .ref (a 4)) tp_mC_f4 rfl dC_addCopy_1 ?_
  refine lv_iload_n hx hb dC_addCopy_4 rfl (lv_at hl 1 rfl) ?_
  by_cases hb1 : tp_oob x1 400
  · exact nomatch ((if_pos hb1).symm.trans hr)
  replace hr := (if_neg hb1).symm.trans hr
  refine va_iald hx hb hK hP 5 0 rfl rfl hb1 dC_addCopy_5 ?_
  refine lv_istore_n hx hb dC_addCopy_6 rfl hl (by decide) rfl (fun ls hl => ?_)
  have hl : lv_has ls 4 [(3, .int (σ 4 x1.toNatClampNeg)), (0, .ref h), (1, .int x1), (2, .int x2)] := hl
  refine lv_iload_n hx hb dC_addCopy_7 rfl (lv_at hl 0 rfl) ?_
  refine lv_iconst (v := (-1)) hx hb dC_addCopy_8 (by decide) ?_
  refine lv_icmp_ne (tgt := 22) hx hb dC_addCopy_9 (by decide) (fun hc2 => ?_) (fun hc2 => ?_)
  · replace hr := (if_neg hc2).symm.trans hr
    refine lv_aload_n hx hb dC_addCopy_22 rfl (lv_at hl 1 rfl) ?_
    refine tp_gtC S hK hP 4 (by decide) (v := .ref (a 4)) tp_mC_f4 rfl dC_addCopy_23 ?_
    refine lv_iload_n hx hb dC_addCopy_26 rfl (lv_at hl 2 rfl) ?_
    refine lv_iload_n hx hb dC_addCopy_27 rfl (lv_at hl 0 rfl) ?_
    refine lv_iload_n hx hb dC_addCopy_28 rfl (lv_at hl 3 rfl) ?_
    refine va_mmin hx hb (hml.trans hl.1.symm) hown (hTB _ tp_mM_min_C) (hTB _ tp_mM_min_st) (hTB _ tp_mM_ini) (hTB _ tp_mM_min_code) (Nat.le_of_ble_eq_true rfl) (Nat.le_of_ble_eq_true rfl) (Nat.zero_le _) (Nat.zero_le _) dC_addCopy_29 ?_
    refine tp_asC4 S hK hP hD hS hb1 dC_addCopy_32 (fun H locs hP hD hS => ?_)
    refine lv_aload_n hx hb dC_addCopy_33 rfl (lv_at hl 1 rfl) ?_
    refine tp_gtC S hK hP 5 (by decide) (v := .ref (a 5)) tp_mC_f5 rfl dC_addCopy_34 ?_
    refine lv_iload_n hx hb dC_addCopy_37 rfl (lv_at hl 2 rfl) ?_
    refine lv_iload_n hx hb dC_addCopy_38 rfl (lv_at hl 0 rfl) ?_
    refine lv_iload_n hx hb dC_addCopy_39 rfl (lv_at hl 3 rfl) ?_
    refine va_mmax hx hb (hml.trans hl.1.symm) hown (hTB _ tp_mM_max_C) (hTB _ tp_mM_max_st) (hTB _ tp_mM_ini) (hTB _ tp_mM_max_code) (Nat.le_of_ble_eq_true rfl) (Nat.le_of_ble_eq_true rfl) (Nat.zero_le _) (Nat.zero_le _) dC_addCopy_40 ?_
    refine tp_asC5 S hK hP hD hS hb1 dC_addCopy_43 (fun H locs hP hD hS => ?_)
    refine lv_aload_n hx hb dC_addCopy_44 rfl (lv_at hl 1 rfl) ?_
    refine tp_gtC S hK hP 1 (by decide) (v := .ref (a 1)) tp_mC_f1 rfl dC_addCopy_45 ?_
    refine lv_iload_n hx hb dC_addCopy_48 rfl (lv_at hl 3 rfl) ?_
    refine lv_dup2_11 hx hb dC_addCopy_49 rfl rfl ?_
    by_cases hb3 : tp_oob x2 12
    · exact nomatch ((if_pos hb3).symm.trans hr)
    replace hr := (if_neg hb3).symm.trans hr
    refine va_iald hx hb hK hP 2 0 rfl rfl hb3 dC_addCopy_50 ?_
    refine lv_iconst (v := 1) hx hb dC_addCopy_51 (by decide) ?_
    refine lv_iadd hx hb dC_addCopy_52 ?_
    refine tp_asC1 S hK hP hD hS hb3 dC_addCopy_53 (fun H locs hP hD hS => ?_)
    obtain rfl := Option.some.inj hr
    exact W.vret hx hb hrt (fun t ht _ => ⟨rfl, by rw [ht]; exact hP, hS.F ht⟩) hS.2.2 dC_addCopy_54 hlocks
  · replace hr := (if_pos hc2).symm.trans hr
    refine lv_aload_n hx hb dC_addCopy_12 rfl (lv_at hl 1 rfl) ?_
    refine tp_gtC S hK hP 4 (by decide) (v := .ref (a 4)) tp_mC_f4 rfl dC_addCopy_13 ?_
    refine lv_iload_n hx hb dC_addCopy_16 rfl (lv_at hl 2 rfl) ?_
    refine lv_iload_n hx hb dC_addCopy_17 rfl (lv_at hl 3 rfl) ?_
    refine tp_asC4 S hK hP hD hS hb1 dC_addCopy_18 (fun H locs hP hD hS => ?_)
    refine lv_goto (tgt := 44) hx hb dC_addCopy_19 (by decide) ?_
    refine lv_aload_n hx hb dC_addCopy_44 rfl (lv_at hl 1 rfl) ?_
    refine tp_gtC S hK hP 1 (by decide) (v := .ref (a 1)) tp_mC_f1 rfl dC_addCopy_45 ?_
    refine lv_iload_n hx hb dC_addCopy_48 rfl (lv_at hl 3 rfl) ?_
    refine lv_dup2_11 hx hb dC_addCopy_49 rfl rfl ?_
    by_cases hb4 : tp_oob x2 12
    · exact nomatch ((if_pos hb4).symm.trans hr)
    replace hr := (if_neg hb4).symm.trans hr
    refine va_iald hx hb hK hP 2 0 rfl rfl hb4 dC_addCopy_50 ?_
    refine lv_iconst (v := 1) hx hb dC_addCopy_51 (by decide) ?_
    refine lv_iadd hx hb dC_addCopy_52 ?_
    refine tp_asC1 S hK hP hD hS hb4 dC_addCopy_53 (fun H locs hP hD hS => ?_)
    obtain rfl := Option.some.inj hr
    exact W.vret hx hb hrt (fun t ht _ => ⟨rfl, by rw [ht]; exact hP, hS.F ht⟩) hS.2.2 dC_addCopy_54 hlocks
set_option maxHeartbeats 4000000 in
set_option maxRecDepth 100000 in
theorem cC_moveCopy (l : Launch) (D : va_G) (h : Nat) (a : Nat → Nat) (cI cZ : ClassId) (sz : Nat) (σ : tp_St) (x1 : Int32) (x2 : Int32) (x3 : Int32) (r : tp_St) (hr : fC_moveCopy σ x1 x2 x3 = some r) : Met l tp_yC_moveCopy (tp_wsT tp_yC_moveCopy tp_bC_moveCopy 4 none) { frames := 2, cells := 0, slots := 0, locals := 44 } (tp_PcW D [(cI, .int), (cZ, .boolean)] (tp_wC h a cI cZ σ) sz [.ref h, .int x1, .int x2, .int x3]) (tp_qW none D (tp_wC h a cI cZ r) (va_A (tp_wC h a cI cZ σ) sz)) 0 0 (va_A (tp_wC h a cI cZ σ) sz) := by
  refine Met.ofW (cc := tp_bC_moveCopy) (maxL := 4) (ret := none) (by decide) rfl ?_
  intro p e s m args below meth c s₁ B hml hv
  obtain ⟨rfl, hsz, hP, hK, hD0⟩ := hv
  have hx := B.exec
  have hb := B.bytes
  have hrt := B.returns
  have hTB : ∀ w ∈ tp_TB, w.before _ s = true := fun w z => atoms_spec (ws := (tp_wsT tp_yC_moveCopy tp_bC_moveCopy 4 none)) B.pre w (List.mem_cons_of_mem _ z)
  have hown : s.vm.findClass tp_RC = some m.cls := findClass_of_methodNamed B.named
  have hlocks := B.notSynchronized
  have S : CallFix p m c tp_bC_moveCopy 4 s _ tp_TB tp_RC := ⟨hx, hb, hml, hown, hTB⟩
  subst hsz
  have hD : va_D (va_A (tp_wC h a cI cZ σ) s.heap.size) (tp_wC h a cI cZ σ) := hD0.self
  have hA : ∀ q : Nat, s.heap.size ≤ q → va_A (tp_wC h a cI cZ σ) s.heap.size q := fun q z => Or.inr z
  have hS : va_S (va_A (tp_wC h a cI cZ σ) s.heap.size) s.heap s.heap [] := va_S.rf
  have hl := lv_entry ([.ref h, .int x1, .int x2, .int x3]) (n := 4) (Nat.le_of_ble_eq_true rfl)
  rw [lg_entry_eq]
  generalize (lg_sl ([.ref h, .int x1, .int x2, .int x3]) ++ List.replicate (4 - (lg_sl ([.ref h, .int x1, .int x2, .int x3])).length) Slot.unset).toArray = ls at hl ⊢
  have hl : lv_has ls 4 [(0, .ref h), (1, .int x1), (2, .int x2), (3, .int x3)] := hl
  rw [fC_moveCopy] at hr
  refine lv_aload_n hx hb dC_moveCopy_0 rfl (lv_at hl 0 rfl) ?_
  refine lv_iload_n hx hb dC_moveCopy_1 rfl (lv_at hl 1 rfl) ?_
  refine lv_iload_n hx hb dC_moveCopy_2 rfl (lv_at hl 2 rfl) ?_
  obtain ⟨q1, hq2, hr⟩ := Option.bind_eq_some_iff.mp hr
  refine tp_kV (rest := []) S hK hP hD hS hA rfl rfl (cC_dropCopy l D h a cI cZ _ σ x1 x2 q1 hq2) (cwV 2 hTB tp_gC_dropCopy rfl rfl rfl ⟨rfl, by decide, by decide, by decide +kernel⟩ ⟨Nat.le_of_ble_eq_true rfl, Nat.le_of_ble_eq_true rfl⟩) rfl hl.1 rfl (Nat.le_of_ble_eq_true rfl) dC_moveCopy_3 ⟨Nat.zero_le _, Nat.zero_le _⟩ (fun H locs hP hS => ?_)
  have hP : va_P D tp_CL (tp_wC h a cI cZ q1) H := hP
  have hD : va_D (va_A (tp_wC h a cI cZ σ) s.heap.size) (tp_wC h a cI cZ q1) := tp_dre hD tp_wC_fst
  refine lv_aload_n hx hb dC_moveCopy_6 rfl (lv_at hl 0 rfl) ?_
  refine lv_iload_n hx hb dC_moveCopy_7 rfl (lv_at hl 1 rfl) ?_
  refine lv_iload_n hx hb dC_moveCopy_8 rfl (lv_at hl 3 rfl) ?_
  obtain ⟨q3, hq4, hr⟩ := Option.bind_eq_some_iff.mp hr
  refine tp_kV (rest := []) S hK hP hD hS hA rfl rfl (cC_addCopy l D h a cI cZ _ q1 x1 x3 q3 hq4) (cwV 2 hTB tp_gC_addCopy rfl rfl rfl ⟨rfl, by decide, by decide, by decide +kernel⟩ ⟨Nat.le_of_ble_eq_true rfl, Nat.le_of_ble_eq_true rfl⟩) rfl hl.1 rfl (Nat.le_of_ble_eq_true rfl) dC_moveCopy_9 ⟨Nat.zero_le _, Nat.zero_le _⟩ (fun H locs hP hS => ?_)
  have hP : va_P D tp_CL (tp_wC h a cI cZ q3) H := hP
  have hD : va_D (va_A (tp_wC h a cI cZ σ) s.heap.size) (tp_wC h a cI cZ q3) := tp_dre hD tp_wC_fst
  obtain rfl := Option.some.inj hr
  exact W.vret hx hb hrt (fun t ht _ => ⟨rfl, by rw [ht]; exact hP, hS.F ht⟩) hS.2.2 dC_moveCopy_12 hlocks
set_option maxHeartbeats 4000000 in
set_option maxRecDepth 100000 in
theorem cC_makeRoomBeside (l : Launch) (D : va_G) (h : Nat) (a : Nat → Nat) (cI cZ : ClassId) (sz : Nat) (σ : tp_St) (x1 : Int32) (r : (Int32 × tp_St)) (hr : fC_makeRoomBeside σ x1 = some r) : Met l tp_yC_makeRoomBeside (tp_wsT tp_yC_makeRoomBeside tp_bC_makeRoomBeside 4 (some .int)) { frames := 3, cells := 0, slots := 0, locals := 67 } (tp_PcW D [(cI, .int), (cZ, .boolean)] (tp_wC h a cI cZ σ) sz [.ref h, .int x1]) (tp_qW (some (.int r.1)) D (tp_wC h a cI cZ r.2) (va_A (tp_wC h a cI cZ σ) sz)) 0 0 (va_A (tp_wC h a cI cZ σ) sz) := by
  refine Met.ofW (cc := tp_bC_makeRoomBeside) (maxL := 4) (ret := (some .int)) (by decide) rfl ?_
  intro p e s m args below meth c s₁ B hml hv
  obtain ⟨rfl, hsz, hP, hK, hD0⟩ := hv
  have hx := B.exec
  have hb := B.bytes
  have hrt := B.returns
  have hTB : ∀ w ∈ tp_TB, w.before _ s = true := fun w z => atoms_spec (ws := (tp_wsT tp_yC_makeRoomBeside tp_bC_makeRoomBeside 4 (some .int))) B.pre w (List.mem_cons_of_mem _ z)
  have hown : s.vm.findClass tp_RC = some m.cls := findClass_of_methodNamed B.named
  have hlocks := B.notSynchronized
  have S : CallFix p m c tp_bC_makeRoomBeside 4 s _ tp_TB tp_RC := ⟨hx, hb, hml, hown, hTB⟩
  subst hsz
  have hD : va_D (va_A (tp_wC h a cI cZ σ) s.heap.size) (tp_wC h a cI cZ σ) := hD0.self
  have hA : ∀ q : Nat, s.heap.size ≤ q → va_A (tp_wC h a cI cZ σ) s.heap.size q := fun q z => Or.inr z
  have hS : va_S (va_A (tp_wC h a cI cZ σ) s.heap.size) s.heap s.heap [] := va_S.rf
  have hl := lv_entry ([.ref h, .int x1]) (n := 4) (Nat.le_of_ble_eq_true rfl)
  rw [lg_entry_eq]
  generalize (lg_sl ([.ref h, .int x1]) ++ List.replicate (4 - (lg_sl ([.ref h, .int x1])).length) Slot.unset).toArray = ls at hl ⊢
  have hl : lv_has ls 4 [(0, .ref h), (1, .int x1)] := hl
  rw [fC_makeRoomBeside] at hr
  refine lv_iconst (v := 0) hx hb dC_makeRoomBeside_0 (by decide) ?_
  refine lv_istore_n hx hb dC_makeRoomBeside_1 rfl hl (by decide) rfl (fun ls hl => ?_)
  have hl : lv_has ls 4 [(2, .int 0), (0, .ref h), (1, .int x1)] := hl
  have loop2 : ∀ (n2 : Nat) (x2 : Int32) (σ2 : tp_St) (H : Heap) (locs : List Loc) (ls : Array Slot), fC_makeRoomBeside_L2 x1 n2 x2 σ2 = some r → lv_has ls 4 [(0, .ref h), (1, .int x1), (2, .int x2)] → va_P D tp_CL (tp_wC h a cI cZ σ2) H → va_D (va_A (tp_wC h a cI cZ σ) s.heap.size) (tp_wC h a cI cZ σ2) → va_S (va_A (tp_wC h a cI cZ σ) s.heap.size) s.heap H locs → W p l e { frames := 3, cells := 0, slots := 0, locals := 67 } s m (([.ref h, .int x1] : List Value).toArray) below meth c H locs 0 0 (MQ below (tp_qW (some (.int r.1)) D (tp_wC h a cI cZ r.2) (va_A (tp_wC h a cI cZ σ) s.heap.size)) (([.ref h, .int x1] : List Value).toArray) s 0 0 (va_A (tp_wC h a cI cZ σ) s.heap.size)) (F0 m 2 ls []) := by
    intro n2
    induction n2 with
    | zero => intro x2 σ2 H locs ls hr hl hP hD hS; exact nomatch (show (none : Option (Int32 × tp_St)) = some r from hr)
    | succ n2 ih2 =>
      intro x2 σ2 H locs ls hr hl hP hD hS
      rw [fC_makeRoomBeside_L2] at hr
      refine lv_iload_n hx hb dC_makeRoomBeside_2 rfl (lv_at hl 2 rfl) ?_
      refine lv_sipush (v := 400) hx hb dC_makeRoomBeside_3 (by decide) ?_
      refine lv_icmp_ge (tgt := 46) hx hb dC_makeRoomBeside_6 (by decide) (fun hc1 => ?_) (fun hc1 => ?_)
      · replace hr := (if_pos hc1).symm.trans hr
        refine lv_iconst (v := (-1)) hx hb dC_makeRoomBeside_46 (by decide) ?_
        obtain rfl := Option.some.inj hr
        exact W.iret (v := (-1)) hx hb hrt (fun t ht _ => ⟨rfl, by rw [ht]; exact hP, hS.F ht⟩) hS.2.2 dC_makeRoomBeside_47 hlocks
      · replace hr := (if_neg hc1).symm.trans hr
        refine lv_aload_n hx hb dC_makeRoomBeside_9 rfl (lv_at hl 0 rfl) ?_
        refine lv_iload_n hx hb dC_makeRoomBeside_10 rfl (lv_at hl 2 rfl) ?_
        refine lv_iload_n hx hb dC_makeRoomBeside_11 rfl (lv_at hl 1 rfl) ?_
        obtain ⟨q2, hq3, hr⟩ := Option.bind_eq_some_iff.mp hr
        refine tp_kP (rest := []) S hK hP hD rfl rfl (cC_copyForRoom l D h a cI cZ _ σ2 x2 x1 q2 hq3) (cwV 2 hTB tp_gC_copyForRoom rfl rfl rfl ⟨rfl, by decide, by decide, by decide +kernel⟩ ⟨Nat.le_of_ble_eq_true rfl, Nat.le_of_ble_eq_true rfl⟩) rfl hl.1 rfl (Nat.le_of_ble_eq_true rfl) dC_makeRoomBeside_12 ⟨Nat.zero_le _, Nat.zero_le _⟩ ?_
        refine lv_istore_n hx hb dC_makeRoomBeside_15 rfl hl (by decide) rfl (fun ls hl => ?_)
        have hl : lv_has ls 4 [(3, .int q2), (0, .ref h), (1, .int x1), (2, .int x2)] := hl
        refine lv_iload_n hx hb dC_makeRoomBeside_16 rfl (lv_at hl 0 rfl) ?_
        refine lv_iconst (v := (-1)) hx hb dC_makeRoomBeside_17 (by decide) ?_
        refine lv_icmp_eq (tgt := 40) hx hb dC_makeRoomBeside_18 (by decide) (fun hc4 => ?_) (fun hc4 => ?_)
        · replace hr := (if_pos hc4).symm.trans hr
          refine lv_iinc (k := 3) (v := (x2 + 1)) hx hb dC_makeRoomBeside_40 hl rfl (tp_ii1 _) (by decide) rfl (fun ls hl => ?_)
          have hl : lv_has ls 4 [(2, .int (x2 + 1)), (3, .int q2), (0, .ref h), (1, .int x1)] := hl
          refine lv_goto (tgt := 2) hx hb dC_makeRoomBeside_43 (by decide) ?_
          exact ih2 (x2 + 1) σ2 H locs ls hr (lv_sub hl [2, 3, 0] rfl) hP hD hS
        · replace hr := (if_neg hc4).symm.trans hr
          refine lv_aload_n hx hb dC_makeRoomBeside_21 rfl (lv_at hl 1 rfl) ?_
          refine lv_iload_n hx hb dC_makeRoomBeside_22 rfl (lv_at hl 3 rfl) ?_
          refine lv_iload_n hx hb dC_makeRoomBeside_23 rfl (lv_at hl 0 rfl) ?_
          refine lv_iload_n hx hb dC_makeRoomBeside_24 rfl (lv_at hl 2 rfl) ?_
          obtain ⟨q5, hq6, hr⟩ := Option.bind_eq_some_iff.mp hr
          refine tp_kV (rest := []) S hK hP hD hS hA rfl rfl (cC_moveCopy l D h a cI cZ _ σ2 x2 q2 x1 q5 hq6) (cwV 3 hTB tp_gC_moveCopy rfl rfl rfl ⟨rfl, by decide, by decide, by decide +kernel⟩ ⟨Nat.le_of_ble_eq_true rfl, Nat.le_of_ble_eq_true rfl⟩) rfl hl.1 rfl (Nat.le_of_ble_eq_true rfl) dC_makeRoomBeside_25 ⟨Nat.zero_le _, Nat.zero_le _⟩ (fun H locs hP hS => ?_)
          have hP : va_P D tp_CL (tp_wC h a cI cZ q5) H := hP
          have hD : va_D (va_A (tp_wC h a cI cZ σ) s.heap.size) (tp_wC h a cI cZ q5) := tp_dre hD tp_wC_fst
          refine lv_aload_n hx hb dC_makeRoomBeside_28 rfl (lv_at hl 1 rfl) ?_
          refine lv_dup hx hb dC_makeRoomBeside_29 rfl ?_
          refine tp_gtC S hK hP 7 (by decide) (v := .int (q5 7 0)) tp_mC_f7 rfl dC_makeRoomBeside_30 ?_
          refine lv_iconst (v := 1) hx hb dC_makeRoomBeside_33 (by decide) ?_
          refine lv_iadd hx hb dC_makeRoomBeside_34 ?_
          refine tp_ptC7 S hK hP hD hS tp_mC_f7 dC_makeRoomBeside_35 (fun H locs hP hD hS => ?_)
          refine lv_iload_n hx hb dC_makeRoomBeside_38 rfl (lv_at hl 0 rfl) ?_
          obtain rfl := Option.some.inj hr
          exact W.iret (v := q2) hx hb hrt (fun t ht _ => ⟨rfl, by rw [ht]; exact hP, hS.F ht⟩) hS.2.2 dC_makeRoomBeside_39 hlocks
  exact loop2 401 0 σ _ _ ls hr (lv_sub hl [1, 2, 0] rfl) hP hD hS
set_option maxHeartbeats 4000000 in
set_option maxRecDepth 100000 in
theorem cC_clearWords (l : Launch) (D : va_G) (h : Nat) (a : Nat → Nat) (cI cZ : ClassId) (sz : Nat) (σ : tp_St) (x1 : Int32) (r : tp_St) (hr : fC_clearWords σ x1 = some r) : Met l tp_yC_clearWords (tp_wsT tp_yC_clearWords tp_bC_clearWords 3 none) { frames := 0, cells := 0, slots := 0, locals := 0 } (tp_PcW D [(cI, .int), (cZ, .boolean)] (tp_wC h a cI cZ σ) sz [.ref h, .int x1]) (tp_qW none D (tp_wC h a cI cZ r) (va_A (tp_wC h a cI cZ σ) sz)) 0 0 (va_A (tp_wC h a cI cZ σ) sz) := by
  refine Met.ofW (cc := tp_bC_clearWords) (maxL := 3) (ret := none) (by decide) rfl ?_
  intro p e s m args below meth c s₁ B hml hv
  obtain ⟨rfl, hsz, hP, hK, hD0⟩ := hv
  have hx := B.exec
  have hb := B.bytes
  have hrt := B.returns
  have hTB : ∀ w ∈ tp_TB, w.before _ s = true := fun w z => atoms_spec (ws := (tp_wsT tp_yC_clearWords tp_bC_clearWords 3 none)) B.pre w (List.mem_cons_of_mem _ z)
  have hown : s.vm.findClass tp_RC = some m.cls := findClass_of_methodNamed B.named
  have hlocks := B.notSynchronized
  have S : CallFix p m c tp_bC_clearWords 3 s _ tp_TB tp_RC := ⟨hx, hb, hml, hown, hTB⟩
  subst hsz
  have hD : va_D (va_A (tp_wC h a cI cZ σ) s.heap.size) (tp_wC h a cI cZ σ) := hD0.self
  have hA : ∀ q : Nat, s.heap.size ≤ q → va_A (tp_wC h a cI cZ σ) s.heap.size q := fun q z => Or.inr z
  have hS : va_S (va_A (tp_wC h a cI cZ σ) s.heap.size) s.heap s.heap [] := va_S.rf
  have hl := lv_entry ([.ref h, .int x1]) (n := 3) (Nat.le_of_ble_eq_true rfl)
  rw [lg_entry_eq]
  generalize (lg_sl ([.ref h, .int x1]) ++ List.replicate (3 - (lg_sl ([.ref h, .int x1])).length) Slot.unset).toArray = ls at hl ⊢
  have hl : lv_has ls 3 [(0, .ref h), (1, .int x1)] := hl
  rw [fC_clearWords] at hr
  refine lv_iconst (v := 0) hx hb dC_clearWords_0 (by decide) ?_
  refine lv_istore_n hx hb dC_clearWords_1 rfl hl (by decide) rfl (fun ls hl => ?_)
  have hl : lv_has ls 3 [(2, .int 0), (0, .ref h), (1, .int x1)] := hl
  have loop2 : ∀ (n2 : Nat) (x2 : Int32) (σ2 : tp_St) (H : Heap) (locs : List Loc) (ls : Array Slot), fC_clearWords_L2 x1 n2 x2 σ2 = some r → lv_has ls 3 [(0, .ref h), (1, .int x1), (2, .int x2)] → va_P D tp_CL (tp_wC h a cI cZ σ2) H → va_D (va_A (tp_wC h a cI cZ σ) s.heap.size) (tp_wC h a cI cZ σ2) → va_S (va_A (tp_wC h a cI cZ σ) s.heap.size) s.heap H locs → W p l e { frames := 0, cells := 0, slots := 0, locals := 0 } s m (([.ref h, .int x1] : List Value).toArray) below meth c H locs 0 0 (MQ below (tp_qW none D (tp_wC h a cI cZ r) (va_A (tp_wC h a cI cZ σ) s.heap.size)) (([.ref h, .int x1] : List Value).toArray) s 0 0 (va_A (tp_wC h a cI cZ σ) s.heap.size)) (F0 m 2 ls []) := by
    intro n2
    induction n2 with
    | zero => intro x2 σ2 H locs ls hr hl hP hD hS; exact nomatch (show (none : Option tp_St) = some r from hr)
    | succ n2 ih2 =>
      intro x2 σ2 H locs ls hr hl hP hD hS
      rw [fC_clearWords_L2] at hr
      refine lv_iload_n hx hb dC_clearWords_2 rfl (lv_at hl 2 rfl) ?_
      refine lv_iconst (v := 4) hx hb dC_clearWords_3 (by decide) ?_
      refine lv_icmp_ge (tgt := 24) hx hb dC_clearWords_4 (by decide) (fun hc1 => ?_) (fun hc1 => ?_)
      · replace hr := (if_pos hc1).symm.trans hr
        obtain rfl := Option.some.inj hr
        exact W.vret hx hb hrt (fun t ht _ => ⟨rfl, by rw [ht]; exact hP, hS.F ht⟩) hS.2.2 dC_clearWords_24 hlocks
      · replace hr := (if_neg hc1).symm.trans hr
        refine lv_aload_n hx hb dC_clearWords_7 rfl (lv_at hl 0 rfl) ?_
        refine tp_gtC S hK hP 6 (by decide) (v := .ref (a 6)) tp_mC_f6 rfl dC_clearWords_8 ?_
        refine lv_iload_n hx hb dC_clearWords_11 rfl (lv_at hl 1 rfl) ?_
        refine lv_iconst (v := 4) hx hb dC_clearWords_12 (by decide) ?_
        refine lv_imul hx hb dC_clearWords_13 ?_
        refine lv_iload_n hx hb dC_clearWords_14 rfl (lv_at hl 2 rfl) ?_
        refine lv_iadd hx hb dC_clearWords_15 ?_
        refine lv_iconst (v := 0) hx hb dC_clearWords_16 (by decide) ?_
        by_cases hb2 : tp_oob ((x1 * 4) + x2) 1600
        · exact nomatch ((if_pos hb2).symm.trans hr)
        replace hr := (if_neg hb2).symm.trans hr
        refine tp_asC6 S hK hP hD hS hb2 dC_clearWords_17 (fun H locs hP hD hS => ?_)
        refine lv_iinc (k := 2) (v := (x2 + 1)) hx hb dC_clearWords_18 hl rfl (tp_ii1 _) (by decide) rfl (fun ls hl => ?_)
        have hl : lv_has ls 3 [(2, .int (x2 + 1)), (0, .ref h), (1, .int x1)] := hl
        refine lv_goto (tgt := 2) hx hb dC_clearWords_21 (by decide) ?_
        exact ih2 (x2 + 1) (tp_up σ2 6 ((x1 * 4) + x2).toNatClampNeg 0) H locs ls hr (lv_sub hl [1, 2, 0] rfl) hP hD hS
  exact loop2 5 0 σ _ _ ls hr (lv_sub hl [1, 2, 0] rfl) hP hD hS
