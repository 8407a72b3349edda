set_option maxHeartbeats 4000000 in
set_option maxRecDepth 100000 in
theorem cC_step (l : Launch) (D : va_G) (h : Nat) (a : Nat → Nat) (cI cZ : ClassId) (sz : Nat) (σ : tp_St) (r : (Int32 × tp_St)) (hr : fC_step σ = some r) : Met l tp_yC_step (tp_wsT tp_yC_step tp_bC_step 1 (some .int)) { frames := 6, cells := 0, slots := 0, locals := 132 } (tp_PcW D [(cI, .int), (cZ, .boolean)] (tp_wC h a cI cZ σ) sz [.ref h]) (tp_qW (some (.int r.1)) D (tp_wC h a cI cZ r.2) (va_A (tp_wC h a cI cZ σ) sz)) 0 0 (va_A (tp_wC h a cI cZ σ) sz) := by
  refine Met.ofW (cc := tp_bC_step) (maxL := 1) (ret := (some .int)) (by decide) rfl ?_
  intro p e s m args below meth c s₁ B hml hv
  obtain ⟨rfl, hsz, hP, hK, hD0⟩ := hv
  have hx := B.exec
  have hb := B.bytes
  have hrt := B.returns
  have hTB : ∀ w ∈ tp_TB, w.before _ s = true := fun w z => atoms_spec (ws := (tp_wsT tp_yC_step tp_bC_step 1 (some .int))) B.pre w (List.mem_cons_of_mem _ z)
  have hown : s.vm.findClass tp_RC = some m.cls := findClass_of_methodNamed B.named
  have hlocks := B.notSynchronized
  have S : CallFix p m c tp_bC_step 1 s _ tp_TB tp_RC := ⟨hx, hb, hml, hown, hTB⟩
  subst hsz
  have hD : va_D (va_A (tp_wC h a cI cZ σ) s.heap.size) (tp_wC h a cI cZ σ) := hD0.self
  have hA : ∀ q : Nat, s.heap.size ≤ q → va_A (tp_wC h a cI cZ σ) s.heap.size q := fun q z => Or.inr z
  have hS : va_S (va_A (tp_wC h a cI cZ σ) s.heap.size) s.heap s.heap [] := va_S.rf
  have hl := lv_entry ([.ref h]) (n := 1) (Nat.le_of_ble_eq_true rfl)
  rw [lg_entry_eq]
  generalize (lg_sl ([.ref h]) ++ List.replicate (1 - (lg_sl ([.ref h])).length) Slot.unset).toArray = ls at hl ⊢
  have hl : lv_has ls 1 [(0, .ref h)] := hl
  rw [fC_step] at hr
  refine lv_aload_n hx hb dC_step_0 rfl (lv_at hl 0 rfl) ?_
  obtain ⟨q1, hq2, hr⟩ := Option.bind_eq_some_iff.mp hr
  refine tp_kV (rest := []) S hK hP hD hS hA rfl rfl (cC_nextStep l D h a cI cZ _ σ  q1 hq2) (cwV 0 hTB tp_gC_nextStep rfl rfl rfl ⟨rfl, by decide, by decide, by decide +kernel⟩ ⟨Nat.le_of_ble_eq_true rfl, Nat.le_of_ble_eq_true rfl⟩) rfl hl.1 rfl (Nat.le_of_ble_eq_true rfl) dC_step_1 ⟨Nat.zero_le _, Nat.zero_le _⟩ (fun H locs hP hS => ?_)
  have hP : va_P D tp_CL (tp_wC h a cI cZ q1.2) H := hP
  have hD : va_D (va_A (tp_wC h a cI cZ σ) s.heap.size) (tp_wC h a cI cZ q1.2) := tp_dre hD tp_wC_fst
  obtain rfl := Option.some.inj hr
  exact W.iret (v := q1.1) hx hb hrt (fun t ht _ => ⟨rfl, by rw [ht]; exact hP, hS.F ht⟩) hS.2.2 dC_step_4 hlocks
set_option maxHeartbeats 4000000 in
set_option maxRecDepth 100000 in
theorem cC_steps (l : Launch) (hl0 : l.stackTraces = false) (D : va_G) (h : Nat) (a : Nat → Nat) (cI cZ : ClassId) (sz : Nat) (σ : tp_St) (x1 : Int32) (r : (Nat × Int32 × tp_St)) (hr : fC_steps σ x1 = some r) : vx_Met l tp_yC_steps (tp_wsT tp_yC_steps tp_bC_steps 4 (some .int)) { frames := 6, cells := 1, slots := 6, locals := 132 } (tp_PcX D [(cI, .int), (cZ, .boolean)] (tp_wC h a cI cZ σ) sz [.ref h, .int x1]) (tp_qTC D h a cI cZ r (va_A (tp_wC h a cI cZ σ) sz)) (tp_qXC [3] D h a cI cZ r (va_A (tp_wC h a cI cZ σ) sz)) 1 6 (va_A (tp_wC h a cI cZ σ) sz) := by
  refine vx_ofW (cc := tp_bC_steps) (maxL := 4) (ret := (some .int)) (by decide) rfl ?_
  intro p e s m args below meth c s₁ B hml hnoh0 hv
  obtain ⟨rfl, hsz, hP, hK, hD0, hX⟩ := hv
  have hnoh : ∀ (x : ExceptionTableEntry), x ∈ c.exceptionTable.toList → False := hnoh0
  have hx := B.exec
  have hb := B.bytes
  have hrt := B.returns
  have hTB : ∀ w ∈ tp_TB, w.before _ s = true := fun w z => atoms_spec (ws := (tp_wsT tp_yC_steps tp_bC_steps 4 (some .int))) B.pre w (List.mem_cons_of_mem _ z)
  have hown : s.vm.findClass tp_RC = some m.cls := findClass_of_methodNamed B.named
  have hlocks := B.notSynchronized
  have S : CallFix p m c tp_bC_steps 4 s _ tp_TB tp_RC := ⟨hx, hb, hml, hown, hTB⟩
  subst hsz
  have hD : va_D (va_A (tp_wC h a cI cZ σ) s.heap.size) (tp_wC h a cI cZ σ) := hD0.self
  have hA : ∀ q : Nat, s.heap.size ≤ q → va_A (tp_wC h a cI cZ σ) s.heap.size q := fun q z => Or.inr z
  have hS : va_S (va_A (tp_wC h a cI cZ σ) s.heap.size) s.heap s.heap [] := va_S.rf
  have hl := lv_entry ([.ref h, .int x1]) (n := 4) (Nat.le_of_ble_eq_true rfl)
  rw [lg_entry_eq]
  generalize (lg_sl ([.ref h, .int x1]) ++ List.replicate (4 - (lg_sl ([.ref h, .int x1])).length) Slot.unset).toArray = ls at hl ⊢
  have hl : lv_has ls 4 [(0, .ref h), (1, .int x1)] := hl
  rw [fC_steps] at hr
  refine lv_iload_n hx hb dC_steps_0 rfl (lv_at hl 1 rfl) ?_
  refine lv_if_ge (tgt := 12) hx hb dC_steps_1 (by decide) (fun hc1 => ?_) (fun hc1 => ?_)
  · replace hr := (if_pos hc1).symm.trans hr
    refine lv_iload_n hx hb dC_steps_12 rfl (lv_at hl 1 rfl) ?_
    refine lv_ldc (v := 1000000) hx hb hown (hTB _ tp_kC_96) dC_steps_13 ?_
    refine va_mmin hx hb (hml.trans hl.1.symm) hown (hTB _ tp_mM_min_C) (hTB _ tp_mM_min_st) (hTB _ tp_mM_ini) (hTB _ tp_mM_min_code) (Nat.le_of_ble_eq_true rfl) (Nat.le_of_ble_eq_true rfl) (Nat.zero_le _) (Nat.zero_le _) dC_steps_15 ?_
    refine lv_istore_n hx hb dC_steps_18 rfl hl (by decide) rfl (fun ls hl => ?_)
    have hl : lv_has ls 4 [(2, .int (if 1000000 < x1 then 1000000 else x1)), (0, .ref h), (1, .int x1)] := hl
    refine lv_iconst (v := 0) hx hb dC_steps_19 (by decide) ?_
    refine lv_istore_n hx hb dC_steps_20 rfl hl (by decide) rfl (fun ls hl => ?_)
    have hl : lv_has ls 4 [(3, .int 0), (2, .int (if 1000000 < x1 then 1000000 else x1)), (0, .ref h), (1, .int x1)] := hl
    have loop21 : ∀ (n21 : Nat) (x3 : Int32) (σ21 : tp_St) (H : Heap) (locs : List Loc) (ls : Array Slot), fC_steps_L21 (if 1000000 < x1 then 1000000 else x1) n21 x3 σ21 = some r → lv_has ls 4 [(0, .ref h), (2, .int (if 1000000 < x1 then 1000000 else x1)), (3, .int x3)] → va_P D tp_CL (tp_wC h a cI cZ σ21) H → va_D (va_A (tp_wC h a cI cZ σ) s.heap.size) (tp_wC h a cI cZ σ21) → va_S (va_A (tp_wC h a cI cZ σ) s.heap.size) s.heap H locs → W p l e { frames := 6, cells := 1, slots := 6, locals := 132 } s m (([.ref h, .int x1] : List Value).toArray) below meth c H locs 0 0 (vx_MQ below (tp_qTC D h a cI cZ r (va_A (tp_wC h a cI cZ σ) s.heap.size)) (tp_qXC [3] D h a cI cZ r (va_A (tp_wC h a cI cZ σ) s.heap.size)) (([.ref h, .int x1] : List Value).toArray) s 1 6 (va_A (tp_wC h a cI cZ σ) s.heap.size)) (F0 m 21 ls []) := by
      intro n21
      induction n21 with
      | zero => intro x3 σ21 H locs ls hr hl hP hD hS; exact nomatch (show (none : Option (Nat × Int32 × tp_St)) = some r from hr)
      | succ n21 ih21 =>
        intro x3 σ21 H locs ls hr hl hP hD hS
        rw [fC_steps_L21] at hr
        refine lv_iload_n hx hb dC_steps_21 rfl (lv_at hl 2 rfl) ?_
        refine lv_iload_n hx hb dC_steps_22 rfl (lv_at hl 1 rfl) ?_
        refine lv_icmp_ge (tgt := 39) hx hb dC_steps_23 (by decide) (fun hc2 => ?_) (fun hc2 => ?_)
        · replace hr := (if_pos hc2).symm.trans hr
          refine lv_iload_n hx hb dC_steps_39 rfl (lv_at hl 2 rfl) ?_
          obtain rfl := Option.some.inj hr
          refine vx_ret (W.widen (k := 1) (n := 6) (Nat.zero_le _) (Nat.zero_le _) ?_)
          exact W.iret (v := x3) hx hb hrt (fun t ht _ => ⟨⟨x3, σ21, rfl, rfl, by show va_P D tp_CL _ t.heap; rw [ht]; exact hP⟩, hS.F ht⟩) hS.2.2 dC_steps_40 hlocks
        · replace hr := (if_neg hc2).symm.trans hr
          refine lv_aload_n hx hb dC_steps_26 rfl (lv_at hl 0 rfl) ?_
          obtain ⟨q3, hq4, hr⟩ := Option.bind_eq_some_iff.mp hr
          refine tp_kV (rest := []) S hK hP hD hS hA rfl rfl (cC_nextStep l D h a cI cZ _ σ21  q3 hq4) (cwV 0 hTB tp_gC_nextStep rfl rfl rfl ⟨rfl, by decide, by decide, by decide +kernel⟩ ⟨Nat.le_of_ble_eq_true rfl, Nat.le_of_ble_eq_true rfl⟩) rfl hl.1 rfl (Nat.le_of_ble_eq_true rfl) dC_steps_27 ⟨Nat.zero_le _, Nat.zero_le _⟩ (fun H locs hP hS => ?_)
          have hP : va_P D tp_CL (tp_wC h a cI cZ q3.2) H := hP
          have hD : va_D (va_A (tp_wC h a cI cZ σ) s.heap.size) (tp_wC h a cI cZ q3.2) := tp_dre hD tp_wC_fst
          refine lv_if_eq (tgt := 39) hx hb dC_steps_30 (by decide) (fun hc5 => ?_) (fun hc5 => ?_)
          · replace hr := (if_pos hc5).symm.trans hr
            refine lv_iload_n hx hb dC_steps_39 rfl (lv_at hl 2 rfl) ?_
            obtain rfl := Option.some.inj hr
            refine vx_ret (W.widen (k := 1) (n := 6) (Nat.zero_le _) (Nat.zero_le _) ?_)
            exact W.iret (v := x3) hx hb hrt (fun t ht _ => ⟨⟨x3, q3.2, rfl, rfl, by show va_P D tp_CL _ t.heap; rw [ht]; exact hP⟩, hS.F ht⟩) hS.2.2 dC_steps_40 hlocks
          · replace hr := (if_neg hc5).symm.trans hr
            refine lv_iinc (k := 2) (v := (x3 + 1)) hx hb dC_steps_33 hl rfl (tp_ii1 _) (by decide) rfl (fun ls hl => ?_)
            have hl : lv_has ls 4 [(3, .int (x3 + 1)), (0, .ref h), (2, .int (if 1000000 < x1 then 1000000 else x1))] := hl
            refine lv_goto (tgt := 21) hx hb dC_steps_36 (by decide) ?_
            exact ih21 (x3 + 1) q3.2 H locs ls hr (lv_sub hl [1, 2, 0] rfl) hP hD hS
    exact loop21 1000001 0 σ _ _ ls hr (lv_sub hl [2, 1, 0] rfl) hP hD hS
  · replace hr := (if_neg hc1).symm.trans hr
    obtain rfl := Option.some.inj hr
    exact tp_thrC (k := 3) hx hb hl0 hown (by decide) tp_xC_3 hTB hX hS hP (hl.1.trans hml.symm) dC_steps_4 dC_steps_7 dC_steps_8 dC_steps_11 hnoh (Nat.le_of_ble_eq_true rfl) (Nat.le_of_ble_eq_true rfl) (Nat.le_of_ble_eq_true rfl) (Nat.le_of_ble_eq_true rfl) hlocks
set_option maxHeartbeats 4000000 in
set_option maxRecDepth 100000 in
theorem cC_place (l : Launch) (hl0 : l.stackTraces = false) (D : va_G) (h : Nat) (a : Nat → Nat) (cI cZ : ClassId) (sz : Nat) (σ : tp_St) (x1 : Int32) (x2 : Int32) (r : (Nat × Int32 × tp_St)) (hr : fC_place σ x1 x2 = some r) : vx_Met l tp_yC_place (tp_wsT tp_yC_place tp_bC_place 3 (some .int)) { frames := 6, cells := 1, slots := 6, locals := 89 } (tp_PcX D [(cI, .int), (cZ, .boolean)] (tp_wC h a cI cZ σ) sz [.ref h, .int x1, .int x2]) (tp_qTC D h a cI cZ r (va_A (tp_wC h a cI cZ σ) sz)) (tp_qXC [1] D h a cI cZ r (va_A (tp_wC h a cI cZ σ) sz)) 1 6 (va_A (tp_wC h a cI cZ σ) sz) := by
  refine vx_ofW (cc := tp_bC_place) (maxL := 3) (ret := (some .int)) (by decide) rfl ?_
  intro p e s m args below meth c s₁ B hml hnoh0 hv
  obtain ⟨rfl, hsz, hP, hK, hD0, hX⟩ := hv
  have hnoh : ∀ (x : ExceptionTableEntry), x ∈ c.exceptionTable.toList → False := hnoh0
  have hx := B.exec
  have hb := B.bytes
  have hrt := B.returns
  have hTB : ∀ w ∈ tp_TB, w.before _ s = true := fun w z => atoms_spec (ws := (tp_wsT tp_yC_place tp_bC_place 3 (some .int))) B.pre w (List.mem_cons_of_mem _ z)
  have hown : s.vm.findClass tp_RC = some m.cls := findClass_of_methodNamed B.named
  have hlocks := B.notSynchronized
  have S : CallFix p m c tp_bC_place 3 s _ tp_TB tp_RC := ⟨hx, hb, hml, hown, hTB⟩
  subst hsz
  have hD : va_D (va_A (tp_wC h a cI cZ σ) s.heap.size) (tp_wC h a cI cZ σ) := hD0.self
  have hA : ∀ q : Nat, s.heap.size ≤ q → va_A (tp_wC h a cI cZ σ) s.heap.size q := fun q z => Or.inr z
  have hS : va_S (va_A (tp_wC h a cI cZ σ) s.heap.size) s.heap s.heap [] := va_S.rf
  have hl := lv_entry ([.ref h, .int x1, .int x2]) (n := 3) (Nat.le_of_ble_eq_true rfl)
  rw [lg_entry_eq]
  generalize (lg_sl ([.ref h, .int x1, .int x2]) ++ List.replicate (3 - (lg_sl ([.ref h, .int x1, .int x2])).length) Slot.unset).toArray = ls at hl ⊢
  have hl : lv_has ls 3 [(0, .ref h), (1, .int x1), (2, .int x2)] := hl
  rw [fC_place] at hr
  refine lv_aload_n hx hb dC_place_0 rfl (lv_at hl 0 rfl) ?_
  refine lv_iload_n hx hb dC_place_1 rfl (lv_at hl 1 rfl) ?_
  obtain ⟨q1, hq2, hr⟩ := Option.bind_eq_some_iff.mp hr
  refine tp_kP (rest := []) S hK hP hD rfl rfl (cC_isChunk l D h a cI cZ _ σ x1 q1 hq2) (cwV 1 hTB tp_gC_isChunk rfl rfl rfl ⟨rfl, by decide, by decide, by decide +kernel⟩ ⟨Nat.le_of_ble_eq_true rfl, Nat.le_of_ble_eq_true rfl⟩) rfl hl.1 rfl (Nat.le_of_ble_eq_true rfl) dC_place_2 ⟨Nat.zero_le _, Nat.zero_le _⟩ ?_
  refine lv_if_ne (tgt := 16) hx hb dC_place_5 (by decide) (fun hc3 => ?_) (fun hc3 => ?_)
  · replace hr := (if_neg hc3).symm.trans hr
    refine lv_iload_n hx hb dC_place_16 rfl (lv_at hl 2 rfl) ?_
    refine lv_if_eq (tgt := 29) hx hb dC_place_17 (by decide) (fun hc4 => ?_) (fun hc4 => ?_)
    · replace hr := (if_pos hc4).symm.trans hr
      refine lv_aload_n hx hb dC_place_29 rfl (lv_at hl 0 rfl) ?_
      refine tp_gtC S hK hP 4 (by decide) (v := .ref (a 4)) tp_mC_f4 rfl dC_place_30 ?_
      refine lv_iload_n hx hb dC_place_33 rfl (lv_at hl 1 rfl) ?_
      by_cases hb5 : tp_oob x1 400
      · exact nomatch ((if_pos hb5).symm.trans hr)
      replace hr := (if_neg hb5).symm.trans hr
      refine va_iald hx hb hK hP 5 0 rfl rfl hb5 dC_place_34 ?_
      obtain rfl := Option.some.inj hr
      refine vx_ret (W.widen (k := 1) (n := 6) (Nat.zero_le _) (Nat.zero_le _) ?_)
      exact W.iret (v := (σ 4 x1.toNatClampNeg)) hx hb hrt (fun t ht _ => ⟨⟨(σ 4 x1.toNatClampNeg), σ, rfl, rfl, by show va_P D tp_CL _ t.heap; rw [ht]; exact hP⟩, hS.F ht⟩) hS.2.2 dC_place_35 hlocks
    · replace hr := (if_neg hc4).symm.trans hr
      refine lv_aload_n hx hb dC_place_20 rfl (lv_at hl 0 rfl) ?_
      refine tp_gtC S hK hP 5 (by decide) (v := .ref (a 5)) tp_mC_f5 rfl dC_place_21 ?_
      refine lv_iload_n hx hb dC_place_24 rfl (lv_at hl 1 rfl) ?_
      by_cases hb6 : tp_oob x1 400
      · exact nomatch ((if_pos hb6).symm.trans hr)
      replace hr := (if_neg hb6).symm.trans hr
      refine va_iald hx hb hK hP 6 0 rfl rfl hb6 dC_place_25 ?_
      refine lv_goto (tgt := 35) hx hb dC_place_26 (by decide) ?_
      obtain rfl := Option.some.inj hr
      refine vx_ret (W.widen (k := 1) (n := 6) (Nat.zero_le _) (Nat.zero_le _) ?_)
      exact W.iret (v := (σ 5 x1.toNatClampNeg)) hx hb hrt (fun t ht _ => ⟨⟨(σ 5 x1.toNatClampNeg), σ, rfl, rfl, by show va_P D tp_CL _ t.heap; rw [ht]; exact hP⟩, hS.F ht⟩) hS.2.2 dC_place_35 hlocks
  · replace hr := (if_pos hc3).symm.trans hr
    obtain rfl := Option.some.inj hr
    exact tp_thrC (k := 1) hx hb hl0 hown (by decide) tp_xC_1 hTB hX hS hP (hl.1.trans hml.symm) dC_place_8 dC_place_11 dC_place_12 dC_place_15 hnoh (Nat.le_of_ble_eq_true rfl) (Nat.le_of_ble_eq_true rfl) (Nat.le_of_ble_eq_true rfl) (Nat.le_of_ble_eq_true rfl) hlocks
set_option maxHeartbeats 4000000 in
set_option maxRecDepth 100000 in
theorem cC_leastChunkOn (l : Launch) (D : va_G) (h : Nat) (a : Nat → Nat) (cI cZ : ClassId) (sz : Nat) (σ : tp_St) (x1 : Int32) (r : Int32) (hr : fC_leastChunkOn σ x1 = some r) : Met l tp_yC_leastChunkOn (tp_wsT tp_yC_leastChunkOn tp_bC_leastChunkOn 3 (some .int)) { frames := 1, cells := 0, slots := 0, locals := 22 } (tp_PcW D [(cI, .int), (cZ, .boolean)] (tp_wC h a cI cZ σ) sz [.ref h, .int x1]) (tp_qI r) 0 0 tp_noF := by
  refine Met.ofW (cc := tp_bC_leastChunkOn) (maxL := 3) (ret := (some .int)) (by decide) rfl ?_
  intro p e s m args below meth c s₁ B hml hv
  obtain ⟨rfl, hsz, hP, hK, hD0⟩ := hv
  have hx := B.exec
  have hb := B.bytes
  have hrt := B.returns
  have hTB : ∀ w ∈ tp_TB, w.before _ s = true := fun w z => atoms_spec (ws := (tp_wsT tp_yC_leastChunkOn tp_bC_leastChunkOn 3 (some .int))) B.pre w (List.mem_cons_of_mem _ z)
  have hown : s.vm.findClass tp_RC = some m.cls := findClass_of_methodNamed B.named
  have hlocks := B.notSynchronized
  have S : CallFix p m c tp_bC_leastChunkOn 3 s _ tp_TB tp_RC := ⟨hx, hb, hml, hown, hTB⟩
  subst hsz
  have hD : va_D (va_A (tp_wC h a cI cZ σ) s.heap.size) (tp_wC h a cI cZ σ) := hD0.self
  have hl := lv_entry ([.ref h, .int x1]) (n := 3) (Nat.le_of_ble_eq_true rfl)
  rw [lg_entry_eq]
  generalize (lg_sl ([.ref h, .int x1]) ++ List.replicate (3 - (lg_sl ([.ref h, .int x1])).length) Slot.unset).toArray = ls at hl ⊢
  have hl : lv_has ls 3 [(0, .ref h), (1, .int x1)] := hl
  rw [fC_leastChunkOn] at hr
  refine lv_iconst (v := 0) hx hb dC_leastChunkOn_0 (by decide) ?_
  refine lv_istore_n hx hb dC_leastChunkOn_1 rfl hl (by decide) rfl (fun ls hl => ?_)
  have hl : lv_has ls 3 [(2, .int 0), (0, .ref h), (1, .int x1)] := hl
  have loop2 : ∀ (n2 : Nat) (x2 : Int32) (ls : Array Slot), fC_leastChunkOn_L2 σ x1 n2 x2 = some r → lv_has ls 3 [(0, .ref h), (1, .int x1), (2, .int x2)] → W p l e { frames := 1, cells := 0, slots := 0, locals := 22 } s m (([.ref h, .int x1] : List Value).toArray) below meth c s.heap [] 0 0 (MQ below (tp_qI r) (([.ref h, .int x1] : List Value).toArray) s 0 0 tp_noF) (F0 m 2 ls []) := by
    intro n2
    induction n2 with
    | zero => intro x2 ls hr hl; exact nomatch (show (none : Option Int32) = some r from hr)
    | succ n2 ih2 =>
      intro x2 ls hr hl
      rw [fC_leastChunkOn_L2] at hr
      refine lv_iload_n hx hb dC_leastChunkOn_2 rfl (lv_at hl 2 rfl) ?_
      refine lv_sipush (v := 400) hx hb dC_leastChunkOn_3 (by decide) ?_
      refine lv_icmp_ge (tgt := 26) hx hb dC_leastChunkOn_6 (by decide) (fun hc1 => ?_) (fun hc1 => ?_)
      · replace hr := (if_pos hc1).symm.trans hr
        refine lv_iconst (v := (-1)) hx hb dC_leastChunkOn_26 (by decide) ?_
        obtain rfl := Option.some.inj hr
        exact W.iret (v := (-1)) hx hb hrt (fun t ht _ => ⟨rfl, ht⟩) (fun _ z => nomatch z) dC_leastChunkOn_27 hlocks
      · replace hr := (if_neg hc1).symm.trans hr
        refine lv_aload_n hx hb dC_leastChunkOn_9 rfl (lv_at hl 0 rfl) ?_
        refine lv_iload_n hx hb dC_leastChunkOn_10 rfl (lv_at hl 2 rfl) ?_
        refine lv_iload_n hx hb dC_leastChunkOn_11 rfl (lv_at hl 1 rfl) ?_
        obtain ⟨q2, hq3, hr⟩ := Option.bind_eq_some_iff.mp hr
        refine tp_kP (rest := []) S hK hP hD rfl rfl (cC_isOn l D h a cI cZ _ σ x2 x1 q2 hq3) (cwV 2 hTB tp_gC_isOn rfl rfl rfl ⟨rfl, by decide, by decide, by decide +kernel⟩ ⟨Nat.le_of_ble_eq_true rfl, Nat.le_of_ble_eq_true rfl⟩) rfl hl.1 rfl (Nat.le_of_ble_eq_true rfl) dC_leastChunkOn_12 ⟨Nat.zero_le _, Nat.zero_le _⟩ ?_
        refine lv_if_eq (tgt := 20) hx hb dC_leastChunkOn_15 (by decide) (fun hc4 => ?_) (fun hc4 => ?_)
        · replace hr := (if_pos hc4).symm.trans hr
          refine lv_iinc (k := 2) (v := (x2 + 1)) hx hb dC_leastChunkOn_20 hl rfl (tp_ii1 _) (by decide) rfl (fun ls hl => ?_)
          have hl : lv_has ls 3 [(2, .int (x2 + 1)), (0, .ref h), (1, .int x1)] := hl
          refine lv_goto (tgt := 2) hx hb dC_leastChunkOn_23 (by decide) ?_
          exact ih2 (x2 + 1) ls hr (lv_sub hl [1, 2, 0] rfl)
        · replace hr := (if_neg hc4).symm.trans hr
          refine lv_iload_n hx hb dC_leastChunkOn_18 rfl (lv_at hl 2 rfl) ?_
          obtain rfl := Option.some.inj hr
          exact W.iret (v := x2) hx hb hrt (fun t ht _ => ⟨rfl, ht⟩) (fun _ z => nomatch z) dC_leastChunkOn_19 hlocks
  exact loop2 401 0 ls hr (lv_sub hl [1, 2, 0] rfl)
set_option maxHeartbeats 4000000 in
set_option maxRecDepth 100000 in
theorem cC_about (l : Launch) (hl0 : l.stackTraces = false) (D : va_G) (h : Nat) (a : Nat → Nat) (cI cZ : ClassId) (sz : Nat) (σ : tp_St) (x1 : Int32) (x2 : Int32) (r : (Nat × Int32 × tp_St)) (hr : fC_about σ x1 x2 = some r) : vx_Met l tp_yC_about (tp_wsT tp_yC_about tp_bC_about 3 (some .int)) { frames := 6, cells := 1, slots := 6, locals := 89 } (tp_PcX D [(cI, .int), (cZ, .boolean)] (tp_wC h a cI cZ σ) sz [.ref h, .int x1, .int x2]) (tp_qTC D h a cI cZ r (va_A (tp_wC h a cI cZ σ) sz)) (tp_qXC [1, 3] D h a cI cZ r (va_A (tp_wC h a cI cZ σ) sz)) 1 6 (va_A (tp_wC h a cI cZ σ) sz) := by
  refine vx_ofW (cc := tp_bC_about) (maxL := 3) (ret := (some .int)) (by decide) rfl ?_
  intro p e s m args below meth c s₁ B hml hnoh0 hv
  obtain ⟨rfl, hsz, hP, hK, hD0, hX⟩ := hv
  have hnoh : ∀ (x : ExceptionTableEntry), x ∈ c.exceptionTable.toList → False := hnoh0
  have hx := B.exec
  have hb := B.bytes
  have hrt := B.returns
  have hTB : ∀ w ∈ tp_TB, w.before _ s = true := fun w z => atoms_spec (ws := (tp_wsT tp_yC_about tp_bC_about 3 (some .int))) B.pre w (List.mem_cons_of_mem _ z)
  have hown : s.vm.findClass tp_RC = some m.cls := findClass_of_methodNamed B.named
  have hlocks := B.notSynchronized
  have S : CallFix p m c tp_bC_about 3 s _ tp_TB tp_RC := ⟨hx, hb, hml, hown, hTB⟩
  subst hsz
  have hD : va_D (va_A (tp_wC h a cI cZ σ) s.heap.size) (tp_wC h a cI cZ σ) := hD0.self
  have hA : ∀ q : Nat, s.heap.size ≤ q → va_A (tp_wC h a cI cZ σ) s.heap.size q := fun q z => Or.inr z
  have hS : va_S (va_A (tp_wC h a cI cZ σ) s.heap.size) s.heap s.heap [] := va_S.rf
  have hl := lv_entry ([.ref h, .int x1, .int x2]) (n := 3) (Nat.le_of_ble_eq_true rfl)
  rw [lg_entry_eq]
  generalize (lg_sl ([.ref h, .int x1, .int x2]) ++ List.replicate (3 - (lg_sl ([.ref h, .int x1, .int x2])).length) Slot.unset).toArray = ls at hl ⊢
  have hl : lv_has ls 3 [(0, .ref h), (1, .int x1), (2, .int x2)] := hl
  rw [fC_about] at hr
  refine lv_aload_n hx hb dC_about_0 rfl (lv_at hl 0 rfl) ?_
  refine lv_iload_n hx hb dC_about_1 rfl (lv_at hl 1 rfl) ?_
  obtain ⟨q1, hq2, hr⟩ := Option.bind_eq_some_iff.mp hr
  refine tp_kP (rest := []) S hK hP hD rfl rfl (cC_isThere l D h a cI cZ _ σ x1 q1 hq2) (cwV 1 hTB tp_gC_isThere rfl rfl rfl ⟨rfl, by decide, by decide, by decide +kernel⟩ ⟨Nat.le_of_ble_eq_true rfl, Nat.le_of_ble_eq_true rfl⟩) rfl hl.1 rfl (Nat.le_of_ble_eq_true rfl) dC_about_2 ⟨Nat.zero_le _, Nat.zero_le _⟩ ?_
  refine lv_if_ne (tgt := 16) hx hb dC_about_5 (by decide) (fun hc3 => ?_) (fun hc3 => ?_)
  · replace hr := (if_neg hc3).symm.trans hr
    refine lv_iload_n hx hb dC_about_16 rfl (lv_at hl 2 rfl) ?_
    by_cases hs4 : x2 = 0
    · replace hr := (if_pos hs4).symm.trans hr
      refine lv_tableIn (x := x2) (tgt := 48) hx hb dC_about_17 (by rw [hs4]; decide) (by rw [hs4]; decide) (by rw [hs4]; rfl) (by decide) ?_
      refine lv_aload_n hx hb dC_about_48 rfl (lv_at hl 0 rfl) ?_
      refine tp_gtC S hK hP 0 (by decide) (v := .ref (a 0)) tp_mC_f0 rfl dC_about_49 ?_
      refine lv_iload_n hx hb dC_about_52 rfl (lv_at hl 1 rfl) ?_
      by_cases hb5 : tp_oob x1 12
      · exact nomatch ((if_pos hb5).symm.trans hr)
      replace hr := (if_neg hb5).symm.trans hr
      refine va_iald hx hb hK hP 1 0 rfl rfl hb5 dC_about_53 ?_
      obtain rfl := Option.some.inj hr
      refine vx_ret (W.widen (k := 1) (n := 6) (Nat.zero_le _) (Nat.zero_le _) ?_)
      exact W.iret (v := (σ 0 x1.toNatClampNeg)) hx hb hrt (fun t ht _ => ⟨⟨(σ 0 x1.toNatClampNeg), σ, rfl, rfl, by show va_P D tp_CL _ t.heap; rw [ht]; exact hP⟩, hS.F ht⟩) hS.2.2 dC_about_54 hlocks
    replace hr := (if_neg hs4).symm.trans hr
    by_cases hs6 : x2 = 1
    · replace hr := (if_pos hs6).symm.trans hr
      refine lv_tableIn (x := x2) (tgt := 55) hx hb dC_about_17 (by rw [hs6]; decide) (by rw [hs6]; decide) (by rw [hs6]; rfl) (by decide) ?_
      refine lv_aload_n hx hb dC_about_55 rfl (lv_at hl 0 rfl) ?_
      refine lv_iload_n hx hb dC_about_56 rfl (lv_at hl 1 rfl) ?_
      obtain ⟨q7, hq8, hr⟩ := Option.bind_eq_some_iff.mp hr
      refine tp_kP (rest := []) S hK hP hD rfl rfl (cC_freePlaces l D h a cI cZ _ σ x1 q7 hq8) (cwV 1 hTB tp_gC_freePlaces rfl rfl rfl ⟨rfl, by decide, by decide, by decide +kernel⟩ ⟨Nat.le_of_ble_eq_true rfl, Nat.le_of_ble_eq_true rfl⟩) rfl hl.1 rfl (Nat.le_of_ble_eq_true rfl) dC_about_57 ⟨Nat.zero_le _, Nat.zero_le _⟩ ?_
      obtain rfl := Option.some.inj hr
      refine vx_ret (W.widen (k := 1) (n := 6) (Nat.zero_le _) (Nat.zero_le _) ?_)
      exact W.iret (v := q7) hx hb hrt (fun t ht _ => ⟨⟨q7, σ, rfl, rfl, by show va_P D tp_CL _ t.heap; rw [ht]; exact hP⟩, hS.F ht⟩) hS.2.2 dC_about_60 hlocks
    replace hr := (if_neg hs6).symm.trans hr
    by_cases hs9 : x2 = 2
    · replace hr := (if_pos hs9).symm.trans hr
      refine lv_tableIn (x := x2) (tgt := 61) hx hb dC_about_17 (by rw [hs9]; decide) (by rw [hs9]; decide) (by rw [hs9]; rfl) (by decide) ?_
      refine lv_aload_n hx hb dC_about_61 rfl (lv_at hl 0 rfl) ?_
      refine tp_gtC S hK hP 2 (by decide) (v := .ref (a 2)) tp_mC_f2 rfl dC_about_62 ?_
      refine lv_iload_n hx hb dC_about_65 rfl (lv_at hl 1 rfl) ?_
      by_cases hb10 : tp_oob x1 12
      · exact nomatch ((if_pos hb10).symm.trans hr)
      replace hr := (if_neg hb10).symm.trans hr
      refine va_zald hx hb hK hP 3 1 rfl rfl hb10 dC_about_66 ?_
      refine lv_if_eq (tgt := 74) hx hb dC_about_67 (by decide) (fun hc11 => ?_) (fun hc11 => ?_)
      · replace hr := (if_pos hc11).symm.trans hr
        refine lv_iconst (v := 0) hx hb dC_about_74 (by decide) ?_
        obtain rfl := Option.some.inj hr
        refine vx_ret (W.widen (k := 1) (n := 6) (Nat.zero_le _) (Nat.zero_le _) ?_)
        exact W.iret (v := 0) hx hb hrt (fun t ht _ => ⟨⟨0, σ, rfl, rfl, by show va_P D tp_CL _ t.heap; rw [ht]; exact hP⟩, hS.F ht⟩) hS.2.2 dC_about_75 hlocks
      · replace hr := (if_neg hc11).symm.trans hr
        refine lv_iconst (v := 1) hx hb dC_about_70 (by decide) ?_
        refine lv_goto (tgt := 75) hx hb dC_about_71 (by decide) ?_
        obtain rfl := Option.some.inj hr
        refine vx_ret (W.widen (k := 1) (n := 6) (Nat.zero_le _) (Nat.zero_le _) ?_)
        exact W.iret (v := 1) hx hb hrt (fun t ht _ => ⟨⟨1, σ, rfl, rfl, by show va_P D tp_CL _ t.heap; rw [ht]; exact hP⟩, hS.F ht⟩) hS.2.2 dC_about_75 hlocks
    replace hr := (if_neg hs9).symm.trans hr
    by_cases hs12 : x2 = 3
    · replace hr := (if_pos hs12).symm.trans hr
      refine lv_tableIn (x := x2) (tgt := 76) hx hb dC_about_17 (by rw [hs12]; decide) (by rw [hs12]; decide) (by rw [hs12]; rfl) (by decide) ?_
      refine lv_aload_n hx hb dC_about_76 rfl (lv_at hl 0 rfl) ?_
      refine lv_iload_n hx hb dC_about_77 rfl (lv_at hl 1 rfl) ?_
      obtain ⟨q13, hq14, hr⟩ := Option.bind_eq_some_iff.mp hr
      refine tp_kP (rest := []) S hK hP hD rfl rfl (cC_leastChunkOn l D h a cI cZ _ σ x1 q13 hq14) (cwV 1 hTB tp_gC_leastChunkOn rfl rfl rfl ⟨rfl, by decide, by decide, by decide +kernel⟩ ⟨Nat.le_of_ble_eq_true rfl, Nat.le_of_ble_eq_true rfl⟩) rfl hl.1 rfl (Nat.le_of_ble_eq_true rfl) dC_about_78 ⟨Nat.zero_le _, Nat.zero_le _⟩ ?_
      obtain rfl := Option.some.inj hr
      refine vx_ret (W.widen (k := 1) (n := 6) (Nat.zero_le _) (Nat.zero_le _) ?_)
      exact W.iret (v := q13) hx hb hrt (fun t ht _ => ⟨⟨q13, σ, rfl, rfl, by show va_P D tp_CL _ t.heap; rw [ht]; exact hP⟩, hS.F ht⟩) hS.2.2 dC_about_81 hlocks
    replace hr := (if_neg hs12).symm.trans hr
    refine lv_tableOut (x := x2) (tgt := 82) hx hb dC_about_17 (tp_tsw3 hs4 hs6 hs9 hs12) (by decide) ?_
    obtain rfl := Option.some.inj hr
    exact tp_thrC (k := 3) hx hb hl0 hown (by decide) tp_xC_3 hTB hX hS hP (hl.1.trans hml.symm) dC_about_82 dC_about_85 dC_about_86 dC_about_89 hnoh (Nat.le_of_ble_eq_true rfl) (Nat.le_of_ble_eq_true rfl) (Nat.le_of_ble_eq_true rfl) (Nat.le_of_ble_eq_true rfl) hlocks
  · replace hr := (if_pos hc3).symm.trans hr
    obtain rfl := Option.some.inj hr
    exact tp_thrC (k := 1) hx hb hl0 hown (by decide) tp_xC_1 hTB hX hS hP (hl.1.trans hml.symm) dC_about_8 dC_about_11 dC_about_12 dC_about_15 hnoh (Nat.le_of_ble_eq_true rfl) (Nat.le_of_ble_eq_true rfl) (Nat.le_of_ble_eq_true rfl) (Nat.le_of_ble_eq_true rfl) hlocks
set_option maxHeartbeats 4000000 in
set_option maxRecDepth 100000 in
theorem cC_disksThere (l : Launch) (D : va_G) (h : Nat) (a : Nat → Nat) (cI cZ : ClassId) (sz : Nat) (σ : tp_St) (r : Int32) (hr : fC_disksThere σ = some r) : Met l tp_yC_disksThere (tp_wsT tp_yC_disksThere tp_bC_disksThere 3 (some .int)) { frames := 1, cells := 0, slots := 0, locals := 21 } (tp_PcW D [(cI, .int), (cZ, .boolean)] (tp_wC h a cI cZ σ) sz [.ref h]) (tp_qI r) 0 0 tp_noF := by
  refine Met.ofW (cc := tp_bC_disksThere) (maxL := 3) (ret := (some .int)) (by decide) rfl ?_
  intro p e s m args below meth c s₁ B hml hv
  obtain ⟨rfl, hsz, hP, hK, hD0⟩ := hv
  have hx := B.exec
  have hb := B.bytes
  have hrt := B.returns
  have hTB : ∀ w ∈ tp_TB, w.before _ s = true := fun w z => atoms_spec (ws := (tp_wsT tp_yC_disksThere tp_bC_disksThere 3 (some .int))) B.pre w (List.mem_cons_of_mem _ z)
  have hown : s.vm.findClass tp_RC = some m.cls := findClass_of_methodNamed B.named
  have hlocks := B.notSynchronized
  have S : CallFix p m c tp_bC_disksThere 3 s _ tp_TB tp_RC := ⟨hx, hb, hml, hown, hTB⟩
  subst hsz
  have hD : va_D (va_A (tp_wC h a cI cZ σ) s.heap.size) (tp_wC h a cI cZ σ) := hD0.self
  have hl := lv_entry ([.ref h]) (n := 3) (Nat.le_of_ble_eq_true rfl)
  rw [lg_entry_eq]
  generalize (lg_sl ([.ref h]) ++ List.replicate (3 - (lg_sl ([.ref h])).length) Slot.unset).toArray = ls at hl ⊢
  have hl : lv_has ls 3 [(0, .ref h)] := hl
  rw [fC_disksThere] at hr
  refine lv_iconst (v := 0) hx hb dC_disksThere_0 (by decide) ?_
  refine lv_istore_n hx hb dC_disksThere_1 rfl hl (by decide) rfl (fun ls hl => ?_)
  have hl : lv_has ls 3 [(1, .int 0), (0, .ref h)] := hl
  refine lv_iconst (v := 0) hx hb dC_disksThere_2 (by decide) ?_
  refine lv_istore_n hx hb dC_disksThere_3 rfl hl (by decide) rfl (fun ls hl => ?_)
  have hl : lv_has ls 3 [(2, .int 0), (1, .int 0), (0, .ref h)] := hl
  have loop4 : ∀ (n4 : Nat) (x1 : Int32) (x2 : Int32) (ls : Array Slot), fC_disksThere_L4 σ  n4 x1 x2 = some r → lv_has ls 3 [(0, .ref h), (1, .int x1), (2, .int x2)] → W p l e { frames := 1, cells := 0, slots := 0, locals := 21 } s m (([.ref h] : List Value).toArray) below meth c s.heap [] 0 0 (MQ below (tp_qI r) (([.ref h] : List Value).toArray) s 0 0 tp_noF) (F0 m 4 ls []) := by
    intro n4
    induction n4 with
    | zero => intro x1 x2 ls hr hl; exact nomatch (show (none : Option Int32) = some r from hr)
    | succ n4 ih4 =>
      intro x1 x2 ls hr hl
      rw [fC_disksThere_L4] at hr
      refine lv_iload_n hx hb dC_disksThere_4 rfl (lv_at hl 2 rfl) ?_
      refine lv_bipush (v := 12) hx hb dC_disksThere_5 (by decide) ?_
      refine lv_icmp_ge (tgt := 27) hx hb dC_disksThere_7 (by decide) (fun hc1 => ?_) (fun hc1 => ?_)
      · replace hr := (if_pos hc1).symm.trans hr
        refine lv_iload_n hx hb dC_disksThere_27 rfl (lv_at hl 1 rfl) ?_
        obtain rfl := Option.some.inj hr
        exact W.iret (v := x1) hx hb hrt (fun t ht _ => ⟨rfl, ht⟩) (fun _ z => nomatch z) dC_disksThere_28 hlocks
      · replace hr := (if_neg hc1).symm.trans hr
        refine lv_aload_n hx hb dC_disksThere_10 rfl (lv_at hl 0 rfl) ?_
        refine lv_iload_n hx hb dC_disksThere_11 rfl (lv_at hl 2 rfl) ?_
        obtain ⟨q2, hq3, hr⟩ := Option.bind_eq_some_iff.mp hr
        refine tp_kP (rest := []) S hK hP hD rfl rfl (cC_isThere l D h a cI cZ _ σ x2 q2 hq3) (cwV 1 hTB tp_gC_isThere rfl rfl rfl ⟨rfl, by decide, by decide, by decide +kernel⟩ ⟨Nat.le_of_ble_eq_true rfl, Nat.le_of_ble_eq_true rfl⟩) rfl hl.1 rfl (Nat.le_of_ble_eq_true rfl) dC_disksThere_12 ⟨Nat.zero_le _, Nat.zero_le _⟩ ?_
        refine lv_if_eq (tgt := 21) hx hb dC_disksThere_15 (by decide) (fun hc4 => ?_) (fun hc4 => ?_)
        · replace hr := (if_pos hc4).symm.trans hr
          refine lv_iinc (k := 2) (v := (x2 + 1)) hx hb dC_disksThere_21 hl rfl (tp_ii1 _) (by decide) rfl (fun ls hl => ?_)
          have hl : lv_has ls 3 [(2, .int (x2 + 1)), (0, .ref h), (1, .int x1)] := hl
          refine lv_goto (tgt := 4) hx hb dC_disksThere_24 (by decide) ?_
          exact ih4 x1 (x2 + 1) ls hr (lv_sub hl [1, 2, 0] rfl)
        · replace hr := (if_neg hc4).symm.trans hr
          refine lv_iinc (k := 1) (v := (x1 + 1)) hx hb dC_disksThere_18 hl rfl (tp_ii1 _) (by decide) rfl (fun ls hl => ?_)
          have hl : lv_has ls 3 [(1, .int (x1 + 1)), (0, .ref h), (2, .int x2)] := hl
          refine lv_iinc (k := 2) (v := (x2 + 1)) hx hb dC_disksThere_21 hl rfl (tp_ii1 _) (by decide) rfl (fun ls hl => ?_)
          have hl : lv_has ls 3 [(2, .int (x2 + 1)), (1, .int (x1 + 1)), (0, .ref h)] := hl
          refine lv_goto (tgt := 4) hx hb dC_disksThere_24 (by decide) ?_
          exact ih4 (x1 + 1) (x2 + 1) ls hr (lv_sub hl [2, 1, 0] rfl)
  exact loop4 13 0 0 ls hr (lv_sub hl [2, 1, 0] rfl)
set_option maxHeartbeats 4000000 in
set_option maxRecDepth 100000 in
theorem cC_copiesOnLeaving (l : Launch) (D : va_G) (h : Nat) (a : Nat → Nat) (cI cZ : ClassId) (sz : Nat) (σ : tp_St) (r : Int32) (hr : fC_copiesOnLeaving σ = some r) : Met l tp_yC_copiesOnLeaving (tp_wsT tp_yC_copiesOnLeaving tp_bC_copiesOnLeaving 3 (some .int)) { frames := 0, cells := 0, slots := 0, locals := 0 } (tp_PcW D [(cI, .int), (cZ, .boolean)] (tp_wC h a cI cZ σ) sz [.ref h]) (tp_qI r) 0 0 tp_noF := by
  refine Met.ofW (cc := tp_bC_copiesOnLeaving) (maxL := 3) (ret := (some .int)) (by decide) rfl ?_
  intro p e s m args below meth c s₁ B hml hv
  obtain ⟨rfl, hsz, hP, hK, hD0⟩ := hv
  have hx := B.exec
  have hb := B.bytes
  have hrt := B.returns
  have hTB : ∀ w ∈ tp_TB, w.before _ s = true := fun w z => atoms_spec (ws := (tp_wsT tp_yC_copiesOnLeaving tp_bC_copiesOnLeaving 3 (some .int))) B.pre w (List.mem_cons_of_mem _ z)
  have hown : s.vm.findClass tp_RC = some m.cls := findClass_of_methodNamed B.named
  have hlocks := B.notSynchronized
  have S : CallFix p m c tp_bC_copiesOnLeaving 3 s _ tp_TB tp_RC := ⟨hx, hb, hml, hown, hTB⟩
  subst hsz
  have hD : va_D (va_A (tp_wC h a cI cZ σ) s.heap.size) (tp_wC h a cI cZ σ) := hD0.self
  have hl := lv_entry ([.ref h]) (n := 3) (Nat.le_of_ble_eq_true rfl)
  rw [lg_entry_eq]
  generalize (lg_sl ([.ref h]) ++ List.replicate (3 - (lg_sl ([.ref h])).length) Slot.unset).toArray = ls at hl ⊢
  have hl : lv_has ls 3 [(0, .ref h)] := hl
  rw [fC_copiesOnLeaving] at hr
  refine lv_iconst (v := 0) hx hb dC_copiesOnLeaving_0 (by decide) ?_
  refine lv_istore_n hx hb dC_copiesOnLeaving_1 rfl hl (by decide) rfl (fun ls hl => ?_)
  have hl : lv_has ls 3 [(1, .int 0), (0, .ref h)] := hl
  refine lv_iconst (v := 0) hx hb dC_copiesOnLeaving_2 (by decide) ?_
  refine lv_istore_n hx hb dC_copiesOnLeaving_3 rfl hl (by decide) rfl (fun ls hl => ?_)
  have hl : lv_has ls 3 [(2, .int 0), (1, .int 0), (0, .ref h)] := hl
  have loop4 : ∀ (n4 : Nat) (x1 : Int32) (x2 : Int32) (ls : Array Slot), fC_copiesOnLeaving_L4 σ  n4 x1 x2 = some r → lv_has ls 3 [(0, .ref h), (1, .int x1), (2, .int x2)] → W p l e { frames := 0, cells := 0, slots := 0, locals := 0 } s m (([.ref h] : List Value).toArray) below meth c s.heap [] 0 0 (MQ below (tp_qI r) (([.ref h] : List Value).toArray) s 0 0 tp_noF) (F0 m 4 ls []) := by
    intro n4
    induction n4 with
    | zero => intro x1 x2 ls hr hl; exact nomatch (show (none : Option Int32) = some r from hr)
    | succ n4 ih4 =>
      intro x1 x2 ls hr hl
      rw [fC_copiesOnLeaving_L4] at hr
      refine lv_iload_n hx hb dC_copiesOnLeaving_4 rfl (lv_at hl 2 rfl) ?_
      refine lv_bipush (v := 12) hx hb dC_copiesOnLeaving_5 (by decide) ?_
      refine lv_icmp_ge (tgt := 34) hx hb dC_copiesOnLeaving_7 (by decide) (fun hc1 => ?_) (fun hc1 => ?_)
      · replace hr := (if_pos hc1).symm.trans hr
        refine lv_iload_n hx hb dC_copiesOnLeaving_34 rfl (lv_at hl 1 rfl) ?_
        obtain rfl := Option.some.inj hr
        exact W.iret (v := x1) hx hb hrt (fun t ht _ => ⟨rfl, ht⟩) (fun _ z => nomatch z) dC_copiesOnLeaving_35 hlocks
      · replace hr := (if_neg hc1).symm.trans hr
        refine lv_aload_n hx hb dC_copiesOnLeaving_10 rfl (lv_at hl 0 rfl) ?_
        refine tp_gtC S hK hP 2 (by decide) (v := .ref (a 2)) tp_mC_f2 rfl dC_copiesOnLeaving_11 ?_
        refine lv_iload_n hx hb dC_copiesOnLeaving_14 rfl (lv_at hl 2 rfl) ?_
        by_cases hb2 : tp_oob x2 12
        · exact nomatch ((if_pos hb2).symm.trans hr)
        replace hr := (if_neg hb2).symm.trans hr
        refine va_zald hx hb hK hP 3 1 rfl rfl hb2 dC_copiesOnLeaving_15 ?_
        refine lv_if_eq (tgt := 28) hx hb dC_copiesOnLeaving_16 (by decide) (fun hc3 => ?_) (fun hc3 => ?_)
        · replace hr := (if_pos hc3).symm.trans hr
          refine lv_iinc (k := 2) (v := (x2 + 1)) hx hb dC_copiesOnLeaving_28 hl rfl (tp_ii1 _) (by decide) rfl (fun ls hl => ?_)
          have hl : lv_has ls 3 [(2, .int (x2 + 1)), (0, .ref h), (1, .int x1)] := hl
          refine lv_goto (tgt := 4) hx hb dC_copiesOnLeaving_31 (by decide) ?_
          exact ih4 x1 (x2 + 1) ls hr (lv_sub hl [1, 2, 0] rfl)
        · replace hr := (if_neg hc3).symm.trans hr
          refine lv_iload_n hx hb dC_copiesOnLeaving_19 rfl (lv_at hl 1 rfl) ?_
          refine lv_aload_n hx hb dC_copiesOnLeaving_20 rfl (lv_at hl 0 rfl) ?_
          refine tp_gtC S hK hP 1 (by decide) (v := .ref (a 1)) tp_mC_f1 rfl dC_copiesOnLeaving_21 ?_
          refine lv_iload_n hx hb dC_copiesOnLeaving_24 rfl (lv_at hl 2 rfl) ?_
          refine va_iald hx hb hK hP 2 0 rfl rfl hb2 dC_copiesOnLeaving_25 ?_
          refine lv_iadd hx hb dC_copiesOnLeaving_26 ?_
          refine lv_istore_n hx hb dC_copiesOnLeaving_27 rfl hl (by decide) rfl (fun ls hl => ?_)
          have hl : lv_has ls 3 [(1, .int (x1 + (σ 1 x2.toNatClampNeg))), (0, .ref h), (2, .int x2)] := hl
          refine lv_iinc (k := 2) (v := (x2 + 1)) hx hb dC_copiesOnLeaving_28 hl rfl (tp_ii1 _) (by decide) rfl (fun ls hl => ?_)
          have hl : lv_has ls 3 [(2, .int (x2 + 1)), (1, .int (x1 + (σ 1 x2.toNatClampNeg))), (0, .ref h)] := hl
          refine lv_goto (tgt := 4) hx hb dC_copiesOnLeaving_31 (by decide) ?_
          exact ih4 (x1 + (σ 1 x2.toNatClampNeg)) (x2 + 1) ls hr (lv_sub hl [2, 1, 0] rfl)
  exact loop4 13 0 0 ls hr (lv_sub hl [2, 1, 0] rfl)
