set_option maxHeartbeats 4000000 in
set_option maxRecDepth 100000 in
theorem cC_newChunk (l : Launch) (D : va_G) (h : Nat) (a : Nat → Nat) (cI cZ : ClassId) (sz : Nat) (σ : tp_St) (r : (Int32 × tp_St)) (hr : fC_newChunk σ = some r) : Met l tp_yC_newChunk (tp_wsT tp_yC_newChunk tp_bC_newChunk 4 (some .int)) { frames := 4, cells := 0, slots := 0, locals := 90 } (tp_PcW D [(cI, .int), (cZ, .boolean)] (tp_wC h a cI cZ σ) sz [.ref h]) (tp_qW (some (.int r.1)) D (tp_wC h a cI cZ r.2) (va_A (tp_wC h a cI cZ σ) sz)) 0 0 (va_A (tp_wC h a cI cZ σ) sz) := by
  refine Met.ofW (cc := tp_bC_newChunk) (maxL := 4) (ret := (some .int)) (by decide) rfl ?_
  intro p e s m args below meth c s₁ B hml hv
  obtain ⟨rfl, hsz, hP, hK, hD0⟩ := hv
  have hx := B.exec
  have hb := B.bytes
  have hrt := B.returns
  have hTB : ∀ w ∈ tp_TB, w.before _ s = true := fun w z => atoms_spec (ws := (tp_wsT tp_yC_newChunk tp_bC_newChunk 4 (some .int))) B.pre w (List.mem_cons_of_mem _ z)
  have hown : s.vm.findClass tp_RC = some m.cls := findClass_of_methodNamed B.named
  have hlocks := B.notSynchronized
  have S : CallFix p m c tp_bC_newChunk 4 s _ tp_TB tp_RC := ⟨hx, hb, hml, hown, hTB⟩
  subst hsz
  have hD : va_D (va_A (tp_wC h a cI cZ σ) s.heap.size) (tp_wC h a cI cZ σ) := hD0.self
  have hA : ∀ q : Nat, s.heap.size ≤ q → va_A (tp_wC h a cI cZ σ) s.heap.size q := fun q z => Or.inr z
  have hS : va_S (va_A (tp_wC h a cI cZ σ) s.heap.size) s.heap s.heap [] := va_S.rf
  have hl := lv_entry ([.ref h]) (n := 4) (Nat.le_of_ble_eq_true rfl)
  rw [lg_entry_eq]
  generalize (lg_sl ([.ref h]) ++ List.replicate (4 - (lg_sl ([.ref h])).length) Slot.unset).toArray = ls at hl ⊢
  have hl : lv_has ls 4 [(0, .ref h)] := hl
  rw [fC_newChunk] at hr
  refine lv_aload_n hx hb dC_newChunk_0 rfl (lv_at hl 0 rfl) ?_
  obtain ⟨q1, hq2, hr⟩ := Option.bind_eq_some_iff.mp hr
  refine tp_kP (rest := []) S hK hP hD rfl rfl (cC_leastUnusedNumber l D h a cI cZ _ σ  q1 hq2) (cwV 0 hTB tp_gC_leastUnusedNumber rfl rfl rfl ⟨rfl, by decide, by decide, by decide +kernel⟩ ⟨Nat.le_of_ble_eq_true rfl, Nat.le_of_ble_eq_true rfl⟩) rfl hl.1 rfl (Nat.le_of_ble_eq_true rfl) dC_newChunk_1 ⟨Nat.zero_le _, Nat.zero_le _⟩ ?_
  refine lv_istore_n hx hb dC_newChunk_4 rfl hl (by decide) rfl (fun ls hl => ?_)
  have hl : lv_has ls 4 [(1, .int q1), (0, .ref h)] := hl
  refine lv_aload_n hx hb dC_newChunk_5 rfl (lv_at hl 1 rfl) ?_
  refine lv_iconst (v := (-1)) hx hb dC_newChunk_6 (by decide) ?_
  obtain ⟨q3, hq4, hr⟩ := Option.bind_eq_some_iff.mp hr
  refine tp_kP (rest := []) S hK hP hD rfl rfl (cC_emptiestBut l D h a cI cZ _ σ (-1) q3 hq4) (cwV 1 hTB tp_gC_emptiestBut rfl rfl rfl ⟨rfl, by decide, by decide, by decide +kernel⟩ ⟨Nat.le_of_ble_eq_true rfl, Nat.le_of_ble_eq_true rfl⟩) rfl hl.1 rfl (Nat.le_of_ble_eq_true rfl) dC_newChunk_7 ⟨Nat.zero_le _, Nat.zero_le _⟩ ?_
  refine lv_istore_n hx hb dC_newChunk_10 rfl hl (by decide) rfl (fun ls hl => ?_)
  have hl : lv_has ls 4 [(2, .int q3), (1, .int q1), (0, .ref h)] := hl
  refine lv_iload_n hx hb dC_newChunk_11 rfl (lv_at hl 1 rfl) ?_
  refine lv_iconst (v := (-1)) hx hb dC_newChunk_12 (by decide) ?_
  refine lv_icmp_eq (tgt := 21) hx hb dC_newChunk_13 (by decide) (fun hc5 => ?_) (fun hc5 => ?_)
  · replace hr := (if_pos hc5).symm.trans hr
    refine lv_iconst (v := (-1)) hx hb dC_newChunk_21 (by decide) ?_
    obtain rfl := Option.some.inj hr
    exact W.iret (v := (-1)) hx hb hrt (fun t ht _ => ⟨rfl, by rw [ht]; exact hP, hS.F ht⟩) hS.2.2 dC_newChunk_22 hlocks
  · replace hr := (if_neg hc5).symm.trans hr
    refine lv_iload_n hx hb dC_newChunk_16 rfl (lv_at hl 0 rfl) ?_
    refine lv_iconst (v := (-1)) hx hb dC_newChunk_17 (by decide) ?_
    refine lv_icmp_ne (tgt := 23) hx hb dC_newChunk_18 (by decide) (fun hc6 => ?_) (fun hc6 => ?_)
    · replace hr := (if_neg hc6).symm.trans hr
      refine lv_aload_n hx hb dC_newChunk_23 rfl (lv_at hl 2 rfl) ?_
      refine lv_iload_n hx hb dC_newChunk_24 rfl (lv_at hl 0 rfl) ?_
      obtain ⟨q7, hq8, hr⟩ := Option.bind_eq_some_iff.mp hr
      refine tp_kP (rest := []) S hK hP hD rfl rfl (cC_emptiestBut l D h a cI cZ _ σ q3 q7 hq8) (cwV 1 hTB tp_gC_emptiestBut rfl rfl rfl ⟨rfl, by decide, by decide, by decide +kernel⟩ ⟨Nat.le_of_ble_eq_true rfl, Nat.le_of_ble_eq_true rfl⟩) rfl hl.1 rfl (Nat.le_of_ble_eq_true rfl) dC_newChunk_25 ⟨Nat.zero_le _, Nat.zero_le _⟩ ?_
      refine lv_istore_n hx hb dC_newChunk_28 rfl hl (by decide) rfl (fun ls hl => ?_)
      have hl : lv_has ls 4 [(3, .int q7), (2, .int q3), (1, .int q1), (0, .ref h)] := hl
      refine lv_iload_n hx hb dC_newChunk_29 rfl (lv_at hl 0 rfl) ?_
      refine lv_iconst (v := (-1)) hx hb dC_newChunk_30 (by decide) ?_
      refine lv_icmp_ne (tgt := 49) hx hb dC_newChunk_31 (by decide) (fun hc9 => ?_) (fun hc9 => ?_)
      · replace hr := (if_neg hc9).symm.trans hr
        refine lv_iload_n hx hb dC_newChunk_49 rfl (lv_at hl 0 rfl) ?_
        refine lv_iconst (v := (-1)) hx hb dC_newChunk_50 (by decide) ?_
        refine lv_icmp_ne (tgt := 56) hx hb dC_newChunk_51 (by decide) (fun hc10 => ?_) (fun hc10 => ?_)
        · replace hr := (if_neg hc10).symm.trans hr
          refine lv_aload_n hx hb dC_newChunk_56 rfl (lv_at hl 3 rfl) ?_
          refine tp_gtC S hK hP 3 (by decide) (v := .ref (a 3)) tp_mC_f3 rfl dC_newChunk_57 ?_
          refine lv_iload_n hx hb dC_newChunk_60 rfl (lv_at hl 2 rfl) ?_
          refine lv_iconst (v := 1) hx hb dC_newChunk_61 (by decide) ?_
          by_cases hb11 : tp_oob q1 400
          · exact nomatch ((if_pos hb11).symm.trans hr)
          replace hr := (if_neg hb11).symm.trans hr
          refine tp_asC3 S hK hP hD hS hb11 dC_newChunk_62 (fun H locs hP hD hS => ?_)
          refine lv_aload_n hx hb dC_newChunk_63 rfl (lv_at hl 3 rfl) ?_
          refine lv_iload_n hx hb dC_newChunk_64 rfl (lv_at hl 2 rfl) ?_
          refine lv_iload_n hx hb dC_newChunk_65 rfl (lv_at hl 1 rfl) ?_
          obtain ⟨q12, hq13, hr⟩ := Option.bind_eq_some_iff.mp hr
          refine tp_kV (rest := []) S hK hP hD hS hA rfl rfl (cC_addCopy l D h a cI cZ _ (tp_up σ 3 q1.toNatClampNeg (vp_nar .boolean 1)) q1 q3 q12 hq13) (cwV 2 hTB tp_gC_addCopy rfl rfl rfl ⟨rfl, by decide, by decide, by decide +kernel⟩ ⟨Nat.le_of_ble_eq_true rfl, Nat.le_of_ble_eq_true rfl⟩) rfl hl.1 rfl (Nat.le_of_ble_eq_true rfl) dC_newChunk_66 ⟨Nat.zero_le _, Nat.zero_le _⟩ (fun H locs hP hS => ?_)
          have hP : va_P D tp_CL (tp_wC h a cI cZ q12) H := hP
          have hD : va_D (va_A (tp_wC h a cI cZ σ) s.heap.size) (tp_wC h a cI cZ q12) := tp_dre hD tp_wC_fst
          refine lv_aload_n hx hb dC_newChunk_69 rfl (lv_at hl 3 rfl) ?_
          refine lv_iload_n hx hb dC_newChunk_70 rfl (lv_at hl 2 rfl) ?_
          refine lv_iload_n hx hb dC_newChunk_71 rfl (lv_at hl 0 rfl) ?_
          obtain ⟨q14, hq15, hr⟩ := Option.bind_eq_some_iff.mp hr
          refine tp_kV (rest := []) S hK hP hD hS hA rfl rfl (cC_addCopy l D h a cI cZ _ q12 q1 q7 q14 hq15) (cwV 2 hTB tp_gC_addCopy rfl rfl rfl ⟨rfl, by decide, by decide, by decide +kernel⟩ ⟨Nat.le_of_ble_eq_true rfl, Nat.le_of_ble_eq_true rfl⟩) rfl hl.1 rfl (Nat.le_of_ble_eq_true rfl) dC_newChunk_72 ⟨Nat.zero_le _, Nat.zero_le _⟩ (fun H locs hP hS => ?_)
          have hP : va_P D tp_CL (tp_wC h a cI cZ q14) H := hP
          have hD : va_D (va_A (tp_wC h a cI cZ σ) s.heap.size) (tp_wC h a cI cZ q14) := tp_dre hD tp_wC_fst
          refine lv_aload_n hx hb dC_newChunk_75 rfl (lv_at hl 3 rfl) ?_
          refine lv_iload_n hx hb dC_newChunk_76 rfl (lv_at hl 2 rfl) ?_
          obtain ⟨q16, hq17, hr⟩ := Option.bind_eq_some_iff.mp hr
          refine tp_kV (rest := []) S hK hP hD hS hA rfl rfl (cC_clearWords l D h a cI cZ _ q14 q1 q16 hq17) (cwV 1 hTB tp_gC_clearWords rfl rfl rfl ⟨rfl, by decide, by decide, by decide +kernel⟩ ⟨Nat.le_of_ble_eq_true rfl, Nat.le_of_ble_eq_true rfl⟩) rfl hl.1 rfl (Nat.le_of_ble_eq_true rfl) dC_newChunk_77 ⟨Nat.zero_le _, Nat.zero_le _⟩ (fun H locs hP hS => ?_)
          have hP : va_P D tp_CL (tp_wC h a cI cZ q16) H := hP
          have hD : va_D (va_A (tp_wC h a cI cZ σ) s.heap.size) (tp_wC h a cI cZ q16) := tp_dre hD tp_wC_fst
          refine lv_iload_n hx hb dC_newChunk_80 rfl (lv_at hl 2 rfl) ?_
          obtain rfl := Option.some.inj hr
          exact W.iret (v := q1) hx hb hrt (fun t ht _ => ⟨rfl, by rw [ht]; exact hP, hS.F ht⟩) hS.2.2 dC_newChunk_81 hlocks
        · replace hr := (if_pos hc10).symm.trans hr
          refine lv_iconst (v := (-1)) hx hb dC_newChunk_54 (by decide) ?_
          obtain rfl := Option.some.inj hr
          exact W.iret (v := (-1)) hx hb hrt (fun t ht _ => ⟨rfl, by rw [ht]; exact hP, hS.F ht⟩) hS.2.2 dC_newChunk_55 hlocks
      · replace hr := (if_pos hc9).symm.trans hr
        refine lv_aload_n hx hb dC_newChunk_34 rfl (lv_at hl 3 rfl) ?_
        refine lv_iload_n hx hb dC_newChunk_35 rfl (lv_at hl 1 rfl) ?_
        obtain ⟨q18, hq19, hr⟩ := Option.bind_eq_some_iff.mp hr
        refine tp_kP (rest := []) S hK hP hD rfl rfl (cC_freePlaces l D h a cI cZ _ σ q3 q18 hq19) (cwV 1 hTB tp_gC_freePlaces rfl rfl rfl ⟨rfl, by decide, by decide, by decide +kernel⟩ ⟨Nat.le_of_ble_eq_true rfl, Nat.le_of_ble_eq_true rfl⟩) rfl hl.1 rfl (Nat.le_of_ble_eq_true rfl) dC_newChunk_36 ⟨Nat.zero_le _, Nat.zero_le _⟩ ?_
        refine lv_iconst (v := 2) hx hb dC_newChunk_39 (by decide) ?_
        refine lv_icmp_lt (tgt := 49) hx hb dC_newChunk_40 (by decide) (fun hc20 => ?_) (fun hc20 => ?_)
        · replace hr := (if_pos hc20).symm.trans hr
          refine lv_iload_n hx hb dC_newChunk_49 rfl (lv_at hl 0 rfl) ?_
          refine lv_iconst (v := (-1)) hx hb dC_newChunk_50 (by decide) ?_
          refine lv_icmp_ne (tgt := 56) hx hb dC_newChunk_51 (by decide) (fun hc21 => ?_) (fun hc21 => ?_)
          · replace hr := (if_neg hc21).symm.trans hr
            refine lv_aload_n hx hb dC_newChunk_56 rfl (lv_at hl 3 rfl) ?_
            refine tp_gtC S hK hP 3 (by decide) (v := .ref (a 3)) tp_mC_f3 rfl dC_newChunk_57 ?_
            refine lv_iload_n hx hb dC_newChunk_60 rfl (lv_at hl 2 rfl) ?_
            refine lv_iconst (v := 1) hx hb dC_newChunk_61 (by decide) ?_
            by_cases hb22 : tp_oob q1 400
            · exact nomatch ((if_pos hb22).symm.trans hr)
            replace hr := (if_neg hb22).symm.trans hr
            refine tp_asC3 S hK hP hD hS hb22 dC_newChunk_62 (fun H locs hP hD hS => ?_)
            refine lv_aload_n hx hb dC_newChunk_63 rfl (lv_at hl 3 rfl) ?_
            refine lv_iload_n hx hb dC_newChunk_64 rfl (lv_at hl 2 rfl) ?_
            refine lv_iload_n hx hb dC_newChunk_65 rfl (lv_at hl 1 rfl) ?_
            obtain ⟨q23, hq24, hr⟩ := Option.bind_eq_some_iff.mp hr
            refine tp_kV (rest := []) S hK hP hD hS hA rfl rfl (cC_addCopy l D h a cI cZ _ (tp_up σ 3 q1.toNatClampNeg (vp_nar .boolean 1)) q1 q3 q23 hq24) (cwV 2 hTB tp_gC_addCopy rfl rfl rfl ⟨rfl, by decide, by decide, by decide +kernel⟩ ⟨Nat.le_of_ble_eq_true rfl, Nat.le_of_ble_eq_true rfl⟩) rfl hl.1 rfl (Nat.le_of_ble_eq_true rfl) dC_newChunk_66 ⟨Nat.zero_le _, Nat.zero_le _⟩ (fun H locs hP hS => ?_)
            have hP : va_P D tp_CL (tp_wC h a cI cZ q23) H := hP
            have hD : va_D (va_A (tp_wC h a cI cZ σ) s.heap.size) (tp_wC h a cI cZ q23) := tp_dre hD tp_wC_fst
            refine lv_aload_n hx hb dC_newChunk_69 rfl (lv_at hl 3 rfl) ?_
            refine lv_iload_n hx hb dC_newChunk_70 rfl (lv_at hl 2 rfl) ?_
            refine lv_iload_n hx hb dC_newChunk_71 rfl (lv_at hl 0 rfl) ?_
            obtain ⟨q25, hq26, hr⟩ := Option.bind_eq_some_iff.mp hr
            refine tp_kV (rest := []) S hK hP hD hS hA rfl rfl (cC_addCopy l D h a cI cZ _ q23 q1 q7 q25 hq26) (cwV 2 hTB tp_gC_addCopy rfl rfl rfl ⟨rfl, by decide, by decide, by decide +kernel⟩ ⟨Nat.le_of_ble_eq_true rfl, Nat.le_of_ble_eq_true rfl⟩) rfl hl.1 rfl (Nat.le_of_ble_eq_true rfl) dC_newChunk_72 ⟨Nat.zero_le _, Nat.zero_le _⟩ (fun H locs hP hS => ?_)
            have hP : va_P D tp_CL (tp_wC h a cI cZ q25) H := hP
            have hD : va_D (va_A (tp_wC h a cI cZ σ) s.heap.size) (tp_wC h a cI cZ q25) := tp_dre hD tp_wC_fst
            refine lv_aload_n hx hb dC_newChunk_75 rfl (lv_at hl 3 rfl) ?_
            refine lv_iload_n hx hb dC_newChunk_76 rfl (lv_at hl 2 rfl) ?_
            obtain ⟨q27, hq28, hr⟩ := Option.bind_eq_some_iff.mp hr
            refine tp_kV (rest := []) S hK hP hD hS hA rfl rfl (cC_clearWords l D h a cI cZ _ q25 q1 q27 hq28) (cwV 1 hTB tp_gC_clearWords rfl rfl rfl ⟨rfl, by decide, by decide, by decide +kernel⟩ ⟨Nat.le_of_ble_eq_true rfl, Nat.le_of_ble_eq_true rfl⟩) rfl hl.1 rfl (Nat.le_of_ble_eq_true rfl) dC_newChunk_77 ⟨Nat.zero_le _, Nat.zero_le _⟩ (fun H locs hP hS => ?_)
            have hP : va_P D tp_CL (tp_wC h a cI cZ q27) H := hP
            have hD : va_D (va_A (tp_wC h a cI cZ σ) s.heap.size) (tp_wC h a cI cZ q27) := tp_dre hD tp_wC_fst
            refine lv_iload_n hx hb dC_newChunk_80 rfl (lv_at hl 2 rfl) ?_
            obtain rfl := Option.some.inj hr
            exact W.iret (v := q1) hx hb hrt (fun t ht _ => ⟨rfl, by rw [ht]; exact hP, hS.F ht⟩) hS.2.2 dC_newChunk_81 hlocks
          · replace hr := (if_pos hc21).symm.trans hr
            refine lv_iconst (v := (-1)) hx hb dC_newChunk_54 (by decide) ?_
            obtain rfl := Option.some.inj hr
            exact W.iret (v := (-1)) hx hb hrt (fun t ht _ => ⟨rfl, by rw [ht]; exact hP, hS.F ht⟩) hS.2.2 dC_newChunk_55 hlocks
        · replace hr := (if_neg hc20).symm.trans hr
          refine lv_aload_n hx hb dC_newChunk_43 rfl (lv_at hl 3 rfl) ?_
          refine lv_iload_n hx hb dC_newChunk_44 rfl (lv_at hl 1 rfl) ?_
          obtain ⟨q29, hq30, hr⟩ := Option.bind_eq_some_iff.mp hr
          refine tp_kV (rest := []) S hK hP hD hS hA rfl rfl (cC_makeRoomBeside l D h a cI cZ _ σ q3 q29 hq30) (cwV 1 hTB tp_gC_makeRoomBeside rfl rfl rfl ⟨rfl, by decide, by decide, by decide +kernel⟩ ⟨Nat.le_of_ble_eq_true rfl, Nat.le_of_ble_eq_true rfl⟩) rfl hl.1 rfl (Nat.le_of_ble_eq_true rfl) dC_newChunk_45 ⟨Nat.zero_le _, Nat.zero_le _⟩ (fun H locs hP hS => ?_)
          have hP : va_P D tp_CL (tp_wC h a cI cZ q29.2) H := hP
          have hD : va_D (va_A (tp_wC h a cI cZ σ) s.heap.size) (tp_wC h a cI cZ q29.2) := tp_dre hD tp_wC_fst
          refine lv_istore_n hx hb dC_newChunk_48 rfl hl (by decide) rfl (fun ls hl => ?_)
          have hl : lv_has ls 4 [(3, .int q29.1), (2, .int q3), (1, .int q1), (0, .ref h)] := hl
          refine lv_iload_n hx hb dC_newChunk_49 rfl (lv_at hl 0 rfl) ?_
          refine lv_iconst (v := (-1)) hx hb dC_newChunk_50 (by decide) ?_
          refine lv_icmp_ne (tgt := 56) hx hb dC_newChunk_51 (by decide) (fun hc31 => ?_) (fun hc31 => ?_)
          · replace hr := (if_neg hc31).symm.trans hr
            refine lv_aload_n hx hb dC_newChunk_56 rfl (lv_at hl 3 rfl) ?_
            refine tp_gtC S hK hP 3 (by decide) (v := .ref (a 3)) tp_mC_f3 rfl dC_newChunk_57 ?_
            refine lv_iload_n hx hb dC_newChunk_60 rfl (lv_at hl 2 rfl) ?_
            refine lv_iconst (v := 1) hx hb dC_newChunk_61 (by decide) ?_
            by_cases hb32 : tp_oob q1 400
            · exact nomatch ((if_pos hb32).symm.trans hr)
            replace hr := (if_neg hb32).symm.trans hr
            refine tp_asC3 S hK hP hD hS hb32 dC_newChunk_62 (fun H locs hP hD hS => ?_)
            refine lv_aload_n hx hb dC_newChunk_63 rfl (lv_at hl 3 rfl) ?_
            refine lv_iload_n hx hb dC_newChunk_64 rfl (lv_at hl 2 rfl) ?_
            refine lv_iload_n hx hb dC_newChunk_65 rfl (lv_at hl 1 rfl) ?_
            obtain ⟨q33, hq34, hr⟩ := Option.bind_eq_some_iff.mp hr
            refine tp_kV (rest := []) S hK hP hD hS hA rfl rfl (cC_addCopy l D h a cI cZ _ (tp_up q29.2 3 q1.toNatClampNeg (vp_nar .boolean 1)) q1 q3 q33 hq34) (cwV 2 hTB tp_gC_addCopy rfl rfl rfl ⟨rfl, by decide, by decide, by decide +kernel⟩ ⟨Nat.le_of_ble_eq_true rfl, Nat.le_of_ble_eq_true rfl⟩) rfl hl.1 rfl (Nat.le_of_ble_eq_true rfl) dC_newChunk_66 ⟨Nat.zero_le _, Nat.zero_le _⟩ (fun H locs hP hS => ?_)
            have hP : va_P D tp_CL (tp_wC h a cI cZ q33) H := hP
            have hD : va_D (va_A (tp_wC h a cI cZ σ) s.heap.size) (tp_wC h a cI cZ q33) := tp_dre hD tp_wC_fst
            refine lv_aload_n hx hb dC_newChunk_69 rfl (lv_at hl 3 rfl) ?_
            refine lv_iload_n hx hb dC_newChunk_70 rfl (lv_at hl 2 rfl) ?_
            refine lv_iload_n hx hb dC_newChunk_71 rfl (lv_at hl 0 rfl) ?_
            obtain ⟨q35, hq36, hr⟩ := Option.bind_eq_some_iff.mp hr
            refine tp_kV (rest := []) S hK hP hD hS hA rfl rfl (cC_addCopy l D h a cI cZ _ q33 q1 q29.1 q35 hq36) (cwV 2 hTB tp_gC_addCopy rfl rfl rfl ⟨rfl, by decide, by decide, by decide +kernel⟩ ⟨Nat.le_of_ble_eq_true rfl, Nat.le_of_ble_eq_true rfl⟩) rfl hl.1 rfl (Nat.le_of_ble_eq_true rfl) dC_newChunk_72 ⟨Nat.zero_le _, Nat.zero_le _⟩ (fun H locs hP hS => ?_)
            have hP : va_P D tp_CL (tp_wC h a cI cZ q35) H := hP
            have hD : va_D (va_A (tp_wC h a cI cZ σ) s.heap.size) (tp_wC h a cI cZ q35) := tp_dre hD tp_wC_fst
            refine lv_aload_n hx hb dC_newChunk_75 rfl (lv_at hl 3 rfl) ?_
            refine lv_iload_n hx hb dC_newChunk_76 rfl (lv_at hl 2 rfl) ?_
            obtain ⟨q37, hq38, hr⟩ := Option.bind_eq_some_iff.mp hr
            refine tp_kV (rest := []) S hK hP hD hS hA rfl rfl (cC_clearWords l D h a cI cZ _ q35 q1 q37 hq38) (cwV 1 hTB tp_gC_clearWords rfl rfl rfl ⟨rfl, by decide, by decide, by decide +kernel⟩ ⟨Nat.le_of_ble_eq_true rfl, Nat.le_of_ble_eq_true rfl⟩) rfl hl.1 rfl (Nat.le_of_ble_eq_true rfl) dC_newChunk_77 ⟨Nat.zero_le _, Nat.zero_le _⟩ (fun H locs hP hS => ?_)
            have hP : va_P D tp_CL (tp_wC h a cI cZ q37) H := hP
            have hD : va_D (va_A (tp_wC h a cI cZ σ) s.heap.size) (tp_wC h a cI cZ q37) := tp_dre hD tp_wC_fst
            refine lv_iload_n hx hb dC_newChunk_80 rfl (lv_at hl 2 rfl) ?_
            obtain rfl := Option.some.inj hr
            exact W.iret (v := q1) hx hb hrt (fun t ht _ => ⟨rfl, by rw [ht]; exact hP, hS.F ht⟩) hS.2.2 dC_newChunk_81 hlocks
          · replace hr := (if_pos hc31).symm.trans hr
            refine lv_iconst (v := (-1)) hx hb dC_newChunk_54 (by decide) ?_
            obtain rfl := Option.some.inj hr
            exact W.iret (v := (-1)) hx hb hrt (fun t ht _ => ⟨rfl, by rw [ht]; exact hP, hS.F ht⟩) hS.2.2 dC_newChunk_55 hlocks
    · replace hr := (if_pos hc6).symm.trans hr
      refine lv_iconst (v := (-1)) hx hb dC_newChunk_21 (by decide) ?_
      obtain rfl := Option.some.inj hr
      exact W.iret (v := (-1)) hx hb hrt (fun t ht _ => ⟨rfl, by rw [ht]; exact hP, hS.F ht⟩) hS.2.2 dC_newChunk_22 hlocks
set_option maxHeartbeats 4000000 in
set_option maxRecDepth 100000 in
theorem cC_chunk (l : Launch) (hl0 : l.stackTraces = false) (D : va_G) (h : Nat) (a : Nat → Nat) (cI cZ : ClassId) (sz : Nat) (σ : tp_St) (r : (Nat × Int32 × tp_St)) (hr : fC_chunk σ = some r) : vx_Met l tp_yC_chunk (tp_wsT tp_yC_chunk tp_bC_chunk 2 (some .int)) { frames := 6, cells := 1, slots := 6, locals := 113 } (tp_PcX D [(cI, .int), (cZ, .boolean)] (tp_wC h a cI cZ σ) sz [.ref h]) (tp_qTC D h a cI cZ r (va_A (tp_wC h a cI cZ σ) sz)) (tp_qXC [4] D h a cI cZ r (va_A (tp_wC h a cI cZ σ) sz)) 1 6 (va_A (tp_wC h a cI cZ σ) sz) := by
  refine vx_ofW (cc := tp_bC_chunk) (maxL := 2) (ret := (some .int)) (by decide) rfl ?_
  intro p e s m args below meth c s₁ B hml hnoh0 hv
  obtain ⟨rfl, hsz, hP, hK, hD0, hX⟩ := hv
  have hnoh : ∀ (x : ExceptionTableEntry), x ∈ c.exceptionTable.toList → False := hnoh0
  have hx := B.exec
  have hb := B.bytes
  have hrt := B.returns
  have hTB : ∀ w ∈ tp_TB, w.before _ s = true := fun w z => atoms_spec (ws := (tp_wsT tp_yC_chunk tp_bC_chunk 2 (some .int))) B.pre w (List.mem_cons_of_mem _ z)
  have hown : s.vm.findClass tp_RC = some m.cls := findClass_of_methodNamed B.named
  have hlocks := B.notSynchronized
  have S : CallFix p m c tp_bC_chunk 2 s _ tp_TB tp_RC := ⟨hx, hb, hml, hown, hTB⟩
  subst hsz
  have hD : va_D (va_A (tp_wC h a cI cZ σ) s.heap.size) (tp_wC h a cI cZ σ) := hD0.self
  have hA : ∀ q : Nat, s.heap.size ≤ q → va_A (tp_wC h a cI cZ σ) s.heap.size q := fun q z => Or.inr z
  have hS : va_S (va_A (tp_wC h a cI cZ σ) s.heap.size) s.heap s.heap [] := va_S.rf
  have hl := lv_entry ([.ref h]) (n := 2) (Nat.le_of_ble_eq_true rfl)
  rw [lg_entry_eq]
  generalize (lg_sl ([.ref h]) ++ List.replicate (2 - (lg_sl ([.ref h])).length) Slot.unset).toArray = ls at hl ⊢
  have hl : lv_has ls 2 [(0, .ref h)] := hl
  rw [fC_chunk] at hr
  refine lv_aload_n hx hb dC_chunk_0 rfl (lv_at hl 0 rfl) ?_
  obtain ⟨q1, hq2, hr⟩ := Option.bind_eq_some_iff.mp hr
  refine tp_kV (rest := []) S hK hP hD hS hA rfl rfl (cC_newChunk l D h a cI cZ _ σ  q1 hq2) (cwV 0 hTB tp_gC_newChunk rfl rfl rfl ⟨rfl, by decide, by decide, by decide +kernel⟩ ⟨Nat.le_of_ble_eq_true rfl, Nat.le_of_ble_eq_true rfl⟩) rfl hl.1 rfl (Nat.le_of_ble_eq_true rfl) dC_chunk_1 ⟨Nat.zero_le _, Nat.zero_le _⟩ (fun H locs hP hS => ?_)
  have hP : va_P D tp_CL (tp_wC h a cI cZ q1.2) H := hP
  have hD : va_D (va_A (tp_wC h a cI cZ σ) s.heap.size) (tp_wC h a cI cZ q1.2) := tp_dre hD tp_wC_fst
  refine lv_istore_n hx hb dC_chunk_4 rfl hl (by decide) rfl (fun ls hl => ?_)
  have hl : lv_has ls 2 [(1, .int q1.1), (0, .ref h)] := hl
  refine lv_iload_n hx hb dC_chunk_5 rfl (lv_at hl 0 rfl) ?_
  refine lv_iconst (v := (-1)) hx hb dC_chunk_6 (by decide) ?_
  refine lv_icmp_ne (tgt := 18) hx hb dC_chunk_7 (by decide) (fun hc3 => ?_) (fun hc3 => ?_)
  · replace hr := (if_neg hc3).symm.trans hr
    refine lv_iload_n hx hb dC_chunk_18 rfl (lv_at hl 0 rfl) ?_
    obtain rfl := Option.some.inj hr
    refine vx_ret (W.widen (k := 1) (n := 6) (Nat.zero_le _) (Nat.zero_le _) ?_)
    exact W.iret (v := q1.1) hx hb hrt (fun t ht _ => ⟨⟨q1.1, q1.2, rfl, rfl, by show va_P D tp_CL _ t.heap; rw [ht]; exact hP⟩, hS.F ht⟩) hS.2.2 dC_chunk_19 hlocks
  · replace hr := (if_pos hc3).symm.trans hr
    obtain rfl := Option.some.inj hr
    exact tp_thrC (k := 4) hx hb hl0 hown (by decide) tp_xC_4 hTB hX hS hP (hl.1.trans hml.symm) dC_chunk_10 dC_chunk_13 dC_chunk_14 dC_chunk_17 hnoh (Nat.le_of_ble_eq_true rfl) (Nat.le_of_ble_eq_true rfl) (Nat.le_of_ble_eq_true rfl) (Nat.le_of_ble_eq_true rfl) hlocks
set_option maxHeartbeats 4000000 in
set_option maxRecDepth 100000 in
theorem cC_chunks (l : Launch) (hl0 : l.stackTraces = false) (D : va_G) (h : Nat) (a : Nat → Nat) (cI cZ : ClassId) (sz : Nat) (σ : tp_St) (x1 : Int32) (r : (Nat × Int32 × tp_St)) (hr : fC_chunks σ x1 = some r) : vx_Met l tp_yC_chunks (tp_wsT tp_yC_chunks tp_bC_chunks 4 (some .int)) { frames := 6, cells := 1, slots := 6, locals := 113 } (tp_PcX D [(cI, .int), (cZ, .boolean)] (tp_wC h a cI cZ σ) sz [.ref h, .int x1]) (tp_qTC D h a cI cZ r (va_A (tp_wC h a cI cZ σ) sz)) (tp_qXC [3] D h a cI cZ r (va_A (tp_wC h a cI cZ σ) sz)) 1 6 (va_A (tp_wC h a cI cZ σ) sz) := by
  refine vx_ofW (cc := tp_bC_chunks) (maxL := 4) (ret := (some .int)) (by decide) rfl ?_
  intro p e s m args below meth c s₁ B hml hnoh0 hv
  obtain ⟨rfl, hsz, hP, hK, hD0, hX⟩ := hv
  have hnoh : ∀ (x : ExceptionTableEntry), x ∈ c.exceptionTable.toList → False := hnoh0
  have hx := B.exec
  have hb := B.bytes
  have hrt := B.returns
  have hTB : ∀ w ∈ tp_TB, w.before _ s = true := fun w z => atoms_spec (ws := (tp_wsT tp_yC_chunks tp_bC_chunks 4 (some .int))) B.pre w (List.mem_cons_of_mem _ z)
  have hown : s.vm.findClass tp_RC = some m.cls := findClass_of_methodNamed B.named
  have hlocks := B.notSynchronized
  have S : CallFix p m c tp_bC_chunks 4 s _ tp_TB tp_RC := ⟨hx, hb, hml, hown, hTB⟩
  subst hsz
  have hD : va_D (va_A (tp_wC h a cI cZ σ) s.heap.size) (tp_wC h a cI cZ σ) := hD0.self
  have hA : ∀ q : Nat, s.heap.size ≤ q → va_A (tp_wC h a cI cZ σ) s.heap.size q := fun q z => Or.inr z
  have hS : va_S (va_A (tp_wC h a cI cZ σ) s.heap.size) s.heap s.heap [] := va_S.rf
  have hl := lv_entry ([.ref h, .int x1]) (n := 4) (Nat.le_of_ble_eq_true rfl)
  rw [lg_entry_eq]
  generalize (lg_sl ([.ref h, .int x1]) ++ List.replicate (4 - (lg_sl ([.ref h, .int x1])).length) Slot.unset).toArray = ls at hl ⊢
  have hl : lv_has ls 4 [(0, .ref h), (1, .int x1)] := hl
  rw [fC_chunks] at hr
  refine lv_iload_n hx hb dC_chunks_0 rfl (lv_at hl 1 rfl) ?_
  refine lv_if_ge (tgt := 12) hx hb dC_chunks_1 (by decide) (fun hc1 => ?_) (fun hc1 => ?_)
  · replace hr := (if_pos hc1).symm.trans hr
    refine lv_iload_n hx hb dC_chunks_12 rfl (lv_at hl 1 rfl) ?_
    refine lv_sipush (v := 400) hx hb dC_chunks_13 (by decide) ?_
    refine va_mmin hx hb (hml.trans hl.1.symm) hown (hTB _ tp_mM_min_C) (hTB _ tp_mM_min_st) (hTB _ tp_mM_ini) (hTB _ tp_mM_min_code) (Nat.le_of_ble_eq_true rfl) (Nat.le_of_ble_eq_true rfl) (Nat.zero_le _) (Nat.zero_le _) dC_chunks_16 ?_
    refine lv_istore_n hx hb dC_chunks_19 rfl hl (by decide) rfl (fun ls hl => ?_)
    have hl : lv_has ls 4 [(2, .int (if 400 < x1 then 400 else x1)), (0, .ref h), (1, .int x1)] := hl
    refine lv_iconst (v := 0) hx hb dC_chunks_20 (by decide) ?_
    refine lv_istore_n hx hb dC_chunks_21 rfl hl (by decide) rfl (fun ls hl => ?_)
    have hl : lv_has ls 4 [(3, .int 0), (2, .int (if 400 < x1 then 400 else x1)), (0, .ref h), (1, .int x1)] := hl
    have loop22 : ∀ (n22 : Nat) (x3 : Int32) (σ22 : tp_St) (H : Heap) (locs : List Loc) (ls : Array Slot), fC_chunks_L22 (if 400 < x1 then 400 else x1) n22 x3 σ22 = some r → lv_has ls 4 [(0, .ref h), (2, .int (if 400 < x1 then 400 else x1)), (3, .int x3)] → va_P D tp_CL (tp_wC h a cI cZ σ22) H → va_D (va_A (tp_wC h a cI cZ σ) s.heap.size) (tp_wC h a cI cZ σ22) → va_S (va_A (tp_wC h a cI cZ σ) s.heap.size) s.heap H locs → W p l e { frames := 6, cells := 1, slots := 6, locals := 113 } s m (([.ref h, .int x1] : List Value).toArray) below meth c H locs 0 0 (vx_MQ below (tp_qTC D h a cI cZ r (va_A (tp_wC h a cI cZ σ) s.heap.size)) (tp_qXC [3] D h a cI cZ r (va_A (tp_wC h a cI cZ σ) s.heap.size)) (([.ref h, .int x1] : List Value).toArray) s 1 6 (va_A (tp_wC h a cI cZ σ) s.heap.size)) (F0 m 22 ls []) := by
      intro n22
      induction n22 with
      | zero => intro x3 σ22 H locs ls hr hl hP hD hS; exact nomatch (show (none : Option (Nat × Int32 × tp_St)) = some r from hr)
      | succ n22 ih22 =>
        intro x3 σ22 H locs ls hr hl hP hD hS
        rw [fC_chunks_L22] at hr
        refine lv_iload_n hx hb dC_chunks_22 rfl (lv_at hl 2 rfl) ?_
        refine lv_iload_n hx hb dC_chunks_23 rfl (lv_at hl 1 rfl) ?_
        refine lv_icmp_ge (tgt := 41) hx hb dC_chunks_24 (by decide) (fun hc2 => ?_) (fun hc2 => ?_)
        · replace hr := (if_pos hc2).symm.trans hr
          refine lv_iload_n hx hb dC_chunks_41 rfl (lv_at hl 2 rfl) ?_
          obtain rfl := Option.some.inj hr
          refine vx_ret (W.widen (k := 1) (n := 6) (Nat.zero_le _) (Nat.zero_le _) ?_)
          exact W.iret (v := x3) hx hb hrt (fun t ht _ => ⟨⟨x3, σ22, rfl, rfl, by show va_P D tp_CL _ t.heap; rw [ht]; exact hP⟩, hS.F ht⟩) hS.2.2 dC_chunks_42 hlocks
        · replace hr := (if_neg hc2).symm.trans hr
          refine lv_aload_n hx hb dC_chunks_27 rfl (lv_at hl 0 rfl) ?_
          obtain ⟨q3, hq4, hr⟩ := Option.bind_eq_some_iff.mp hr
          refine tp_kV (rest := []) S hK hP hD hS hA rfl rfl (cC_newChunk l D h a cI cZ _ σ22  q3 hq4) (cwV 0 hTB tp_gC_newChunk rfl rfl rfl ⟨rfl, by decide, by decide, by decide +kernel⟩ ⟨Nat.le_of_ble_eq_true rfl, Nat.le_of_ble_eq_true rfl⟩) rfl hl.1 rfl (Nat.le_of_ble_eq_true rfl) dC_chunks_28 ⟨Nat.zero_le _, Nat.zero_le _⟩ (fun H locs hP hS => ?_)
          have hP : va_P D tp_CL (tp_wC h a cI cZ q3.2) H := hP
          have hD : va_D (va_A (tp_wC h a cI cZ σ) s.heap.size) (tp_wC h a cI cZ q3.2) := tp_dre hD tp_wC_fst
          refine lv_iconst (v := (-1)) hx hb dC_chunks_31 (by decide) ?_
          refine lv_icmp_eq (tgt := 41) hx hb dC_chunks_32 (by decide) (fun hc5 => ?_) (fun hc5 => ?_)
          · replace hr := (if_pos hc5).symm.trans hr
            refine lv_iload_n hx hb dC_chunks_41 rfl (lv_at hl 2 rfl) ?_
            obtain rfl := Option.some.inj hr
            refine vx_ret (W.widen (k := 1) (n := 6) (Nat.zero_le _) (Nat.zero_le _) ?_)
            exact W.iret (v := x3) hx hb hrt (fun t ht _ => ⟨⟨x3, q3.2, rfl, rfl, by show va_P D tp_CL _ t.heap; rw [ht]; exact hP⟩, hS.F ht⟩) hS.2.2 dC_chunks_42 hlocks
          · replace hr := (if_neg hc5).symm.trans hr
            refine lv_iinc (k := 2) (v := (x3 + 1)) hx hb dC_chunks_35 hl rfl (tp_ii1 _) (by decide) rfl (fun ls hl => ?_)
            have hl : lv_has ls 4 [(3, .int (x3 + 1)), (0, .ref h), (2, .int (if 400 < x1 then 400 else x1))] := hl
            refine lv_goto (tgt := 22) hx hb dC_chunks_38 (by decide) ?_
            exact ih22 (x3 + 1) q3.2 H locs ls hr (lv_sub hl [1, 2, 0] rfl) hP hD hS
    exact loop22 401 0 σ _ _ ls hr (lv_sub hl [2, 1, 0] rfl) hP hD hS
  · replace hr := (if_neg hc1).symm.trans hr
    obtain rfl := Option.some.inj hr
    exact tp_thrC (k := 3) hx hb hl0 hown (by decide) tp_xC_3 hTB hX hS hP (hl.1.trans hml.symm) dC_chunks_4 dC_chunks_7 dC_chunks_8 dC_chunks_11 hnoh (Nat.le_of_ble_eq_true rfl) (Nat.le_of_ble_eq_true rfl) (Nat.le_of_ble_eq_true rfl) (Nat.le_of_ble_eq_true rfl) hlocks
set_option maxHeartbeats 4000000 in
set_option maxRecDepth 100000 in
theorem cC_isChunk (l : Launch) (D : va_G) (h : Nat) (a : Nat → Nat) (cI cZ : ClassId) (sz : Nat) (σ : tp_St) (x1 : Int32) (r : Int32) (hr : fC_isChunk σ x1 = some r) : Met l tp_yC_isChunk (tp_wsT tp_yC_isChunk tp_bC_isChunk 2 (some .boolean)) { frames := 0, cells := 0, slots := 0, locals := 0 } (tp_PcW D [(cI, .int), (cZ, .boolean)] (tp_wC h a cI cZ σ) sz [.ref h, .int x1]) (tp_qI r) 0 0 tp_noF := by
  refine Met.ofW (cc := tp_bC_isChunk) (maxL := 2) (ret := (some .boolean)) (by decide) rfl ?_
  intro p e s m args below meth c s₁ B hml hv
  obtain ⟨rfl, hsz, hP, hK, hD0⟩ := hv
  have hx := B.exec
  have hb := B.bytes
  have hrt := B.returns
  have hTB : ∀ w ∈ tp_TB, w.before _ s = true := fun w z => atoms_spec (ws := (tp_wsT tp_yC_isChunk tp_bC_isChunk 2 (some .boolean))) B.pre w (List.mem_cons_of_mem _ z)
  have hown : s.vm.findClass tp_RC = some m.cls := findClass_of_methodNamed B.named
  have hlocks := B.notSynchronized
  have S : CallFix p m c tp_bC_isChunk 2 s _ tp_TB tp_RC := ⟨hx, hb, hml, hown, hTB⟩
  subst hsz
  have hD : va_D (va_A (tp_wC h a cI cZ σ) s.heap.size) (tp_wC h a cI cZ σ) := hD0.self
  have hl := lv_entry ([.ref h, .int x1]) (n := 2) (Nat.le_of_ble_eq_true rfl)
  rw [lg_entry_eq]
  generalize (lg_sl ([.ref h, .int x1]) ++ List.replicate (2 - (lg_sl ([.ref h, .int x1])).length) Slot.unset).toArray = ls at hl ⊢
  have hl : lv_has ls 2 [(0, .ref h), (1, .int x1)] := hl
  rw [fC_isChunk] at hr
  refine lv_iload_n hx hb dC_isChunk_0 rfl (lv_at hl 1 rfl) ?_
  refine lv_if_lt (tgt := 24) hx hb dC_isChunk_1 (by decide) (fun hc1 => ?_) (fun hc1 => ?_)
  · replace hr := (if_pos hc1).symm.trans hr
    refine lv_iconst (v := 0) hx hb dC_isChunk_24 (by decide) ?_
    obtain rfl := Option.some.inj hr
    exact W.zret (v := 0) hx hb hrt (by decide) (fun t ht _ => ⟨rfl, ht⟩) (fun _ z => nomatch z) dC_isChunk_25 hlocks
  · replace hr := (if_neg hc1).symm.trans hr
    refine lv_iload_n hx hb dC_isChunk_4 rfl (lv_at hl 1 rfl) ?_
    refine lv_sipush (v := 400) hx hb dC_isChunk_5 (by decide) ?_
    refine lv_icmp_ge (tgt := 24) hx hb dC_isChunk_8 (by decide) (fun hc2 => ?_) (fun hc2 => ?_)
    · replace hr := (if_pos hc2).symm.trans hr
      refine lv_iconst (v := 0) hx hb dC_isChunk_24 (by decide) ?_
      obtain rfl := Option.some.inj hr
      exact W.zret (v := 0) hx hb hrt (by decide) (fun t ht _ => ⟨rfl, ht⟩) (fun _ z => nomatch z) dC_isChunk_25 hlocks
    · replace hr := (if_neg hc2).symm.trans hr
      refine lv_aload_n hx hb dC_isChunk_11 rfl (lv_at hl 0 rfl) ?_
      refine tp_gtC S hK hP 3 (by decide) (v := .ref (a 3)) tp_mC_f3 rfl dC_isChunk_12 ?_
      refine lv_iload_n hx hb dC_isChunk_15 rfl (lv_at hl 1 rfl) ?_
      by_cases hb3 : tp_oob x1 400
      · exact nomatch ((if_pos hb3).symm.trans hr)
      replace hr := (if_neg hb3).symm.trans hr
      refine va_zald hx hb hK hP 4 1 rfl rfl hb3 dC_isChunk_16 ?_
      refine lv_if_eq (tgt := 24) hx hb dC_isChunk_17 (by decide) (fun hc4 => ?_) (fun hc4 => ?_)
      · replace hr := (if_pos hc4).symm.trans hr
        refine lv_iconst (v := 0) hx hb dC_isChunk_24 (by decide) ?_
        obtain rfl := Option.some.inj hr
        exact W.zret (v := 0) hx hb hrt (by decide) (fun t ht _ => ⟨rfl, ht⟩) (fun _ z => nomatch z) dC_isChunk_25 hlocks
      · replace hr := (if_neg hc4).symm.trans hr
        refine lv_iconst (v := 1) hx hb dC_isChunk_20 (by decide) ?_
        refine lv_goto (tgt := 25) hx hb dC_isChunk_21 (by decide) ?_
        obtain rfl := Option.some.inj hr
        exact W.zret (v := 1) hx hb hrt (by decide) (fun t ht _ => ⟨rfl, ht⟩) (fun _ z => nomatch z) dC_isChunk_25 hlocks
set_option maxHeartbeats 4000000 in
set_option maxRecDepth 100000 in
theorem cC_copiesOf (l : Launch) (D : va_G) (h : Nat) (a : Nat → Nat) (cI cZ : ClassId) (sz : Nat) (σ : tp_St) (x1 : Int32) (r : Int32) (hr : fC_copiesOf σ x1 = some r) : Met l tp_yC_copiesOf (tp_wsT tp_yC_copiesOf tp_bC_copiesOf 2 (some .int)) { frames := 0, cells := 0, slots := 0, locals := 0 } (tp_PcW D [(cI, .int), (cZ, .boolean)] (tp_wC h a cI cZ σ) sz [.ref h, .int x1]) (tp_qI r) 0 0 tp_noF := by
  refine Met.ofW (cc := tp_bC_copiesOf) (maxL := 2) (ret := (some .int)) (by decide) rfl ?_
  intro p e s m args below meth c s₁ B hml hv
  obtain ⟨rfl, hsz, hP, hK, hD0⟩ := hv
  have hx := B.exec
  have hb := B.bytes
  have hrt := B.returns
  have hTB : ∀ w ∈ tp_TB, w.before _ s = true := fun w z => atoms_spec (ws := (tp_wsT tp_yC_copiesOf tp_bC_copiesOf 2 (some .int))) B.pre w (List.mem_cons_of_mem _ z)
  have hown : s.vm.findClass tp_RC = some m.cls := findClass_of_methodNamed B.named
  have hlocks := B.notSynchronized
  have S : CallFix p m c tp_bC_copiesOf 2 s _ tp_TB tp_RC := ⟨hx, hb, hml, hown, hTB⟩
  subst hsz
  have hD : va_D (va_A (tp_wC h a cI cZ σ) s.heap.size) (tp_wC h a cI cZ σ) := hD0.self
  have hl := lv_entry ([.ref h, .int x1]) (n := 2) (Nat.le_of_ble_eq_true rfl)
  rw [lg_entry_eq]
  generalize (lg_sl ([.ref h, .int x1]) ++ List.replicate (2 - (lg_sl ([.ref h, .int x1])).length) Slot.unset).toArray = ls at hl ⊢
  have hl : lv_has ls 2 [(0, .ref h), (1, .int x1)] := hl
  rw [fC_copiesOf] at hr
  refine lv_aload_n hx hb dC_copiesOf_0 rfl (lv_at hl 0 rfl) ?_
  refine tp_gtC S hK hP 4 (by decide) (v := .ref (a 4)) tp_mC_f4 rfl dC_copiesOf_1 ?_
  refine lv_iload_n hx hb dC_copiesOf_4 rfl (lv_at hl 1 rfl) ?_
  by_cases hb1 : tp_oob x1 400
  · exact nomatch ((if_pos hb1).symm.trans hr)
  replace hr := (if_neg hb1).symm.trans hr
  refine va_iald hx hb hK hP 5 0 rfl rfl hb1 dC_copiesOf_5 ?_
  refine lv_iconst (v := (-1)) hx hb dC_copiesOf_6 (by decide) ?_
  refine lv_icmp_ne (tgt := 12) hx hb dC_copiesOf_7 (by decide) (fun hc2 => ?_) (fun hc2 => ?_)
  · replace hr := (if_neg hc2).symm.trans hr
    refine lv_aload_n hx hb dC_copiesOf_12 rfl (lv_at hl 0 rfl) ?_
    refine tp_gtC S hK hP 5 (by decide) (v := .ref (a 5)) tp_mC_f5 rfl dC_copiesOf_13 ?_
    refine lv_iload_n hx hb dC_copiesOf_16 rfl (lv_at hl 1 rfl) ?_
    refine va_iald hx hb hK hP 6 0 rfl rfl hb1 dC_copiesOf_17 ?_
    refine lv_iconst (v := (-1)) hx hb dC_copiesOf_18 (by decide) ?_
    refine lv_icmp_ne (tgt := 26) hx hb dC_copiesOf_19 (by decide) (fun hc3 => ?_) (fun hc3 => ?_)
    · replace hr := (if_neg hc3).symm.trans hr
      refine lv_iconst (v := 2) hx hb dC_copiesOf_26 (by decide) ?_
      obtain rfl := Option.some.inj hr
      exact W.iret (v := 2) hx hb hrt (fun t ht _ => ⟨rfl, ht⟩) (fun _ z => nomatch z) dC_copiesOf_27 hlocks
    · replace hr := (if_pos hc3).symm.trans hr
      refine lv_iconst (v := 1) hx hb dC_copiesOf_22 (by decide) ?_
      refine lv_goto (tgt := 27) hx hb dC_copiesOf_23 (by decide) ?_
      obtain rfl := Option.some.inj hr
      exact W.iret (v := 1) hx hb hrt (fun t ht _ => ⟨rfl, ht⟩) (fun _ z => nomatch z) dC_copiesOf_27 hlocks
  · replace hr := (if_pos hc2).symm.trans hr
    refine lv_iconst (v := 0) hx hb dC_copiesOf_10 (by decide) ?_
    obtain rfl := Option.some.inj hr
    exact W.iret (v := 0) hx hb hrt (fun t ht _ => ⟨rfl, ht⟩) (fun _ z => nomatch z) dC_copiesOf_11 hlocks
