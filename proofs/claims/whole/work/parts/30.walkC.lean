set_option maxHeartbeats 4000000 in
set_option maxRecDepth 100000 in
theorem cC_isThere (l : Launch) (D : va_G) (h : Nat) (a : Nat → Nat) (cI cZ : ClassId) (sz : Nat) (σ : tp_St) (x1 : Int32) (r : Int32) (hr : fC_isThere σ x1 = some r) : Met l tp_yC_isThere (tp_wsT tp_yC_isThere tp_bC_isThere 2 (some .boolean)) { frames := 0, cells := 0, slots := 0, locals := 0 } (tp_PcW D [(cI, .int), (cZ, .boolean)] (tp_wC h a cI cZ σ) sz [.ref h, .int x1]) (tp_qI r) 0 0 tp_noF := by
  refine Met.ofW (cc := tp_bC_isThere) (maxL := 2) (ret := (some .boolean)) (by decide) rfl ?_
  intro p e s m args below meth c s₁ B hml hv
  obtain ⟨rfl, hsz, hP, hK, hD0⟩ := hv
  have hx := B.exec
  have hb := B.bytes
  have hrt := B.returns
  have hTB : ∀ w ∈ tp_TB, w.before _ s = true := fun w z => atoms_spec (ws := (tp_wsT tp_yC_isThere tp_bC_isThere 2 (some .boolean))) B.pre w (List.mem_cons_of_mem _ z)
  have hown : s.vm.findClass tp_RC = some m.cls := findClass_of_methodNamed B.named
  have hlocks := B.notSynchronized
  have S : CallFix p m c tp_bC_isThere 2 s _ tp_TB tp_RC := ⟨hx, hb, hml, hown, hTB⟩
  subst hsz
  have hD : va_D (va_A (tp_wC h a cI cZ σ) s.heap.size) (tp_wC h a cI cZ σ) := hD0.self
  have hl := lv_entry ([.ref h, .int x1]) (n := 2) (Nat.le_of_ble_eq_true rfl)
  rw [lg_entry_eq]
  generalize (lg_sl ([.ref h, .int x1]) ++ List.replicate (2 - (lg_sl ([.ref h, .int x1])).length) Slot.unset).toArray = ls at hl ⊢
  have hl : lv_has ls 2 [(0, .ref h), (1, .int x1)] := hl
  rw [fC_isThere] at hr
  refine lv_iload_n hx hb dC_isThere_0 rfl (lv_at hl 1 rfl) ?_
  refine lv_if_lt (tgt := 23) hx hb dC_isThere_1 (by decide) (fun hc1 => ?_) (fun hc1 => ?_)
  · replace hr := (if_pos hc1).symm.trans hr
    refine lv_iconst (v := 0) hx hb dC_isThere_23 (by decide) ?_
    obtain rfl := Option.some.inj hr
    exact W.zret (v := 0) hx hb hrt (by decide) (fun t ht _ => ⟨rfl, ht⟩) (fun _ z => nomatch z) dC_isThere_24 hlocks
  · replace hr := (if_neg hc1).symm.trans hr
    refine lv_iload_n hx hb dC_isThere_4 rfl (lv_at hl 1 rfl) ?_
    refine lv_bipush (v := 12) hx hb dC_isThere_5 (by decide) ?_
    refine lv_icmp_ge (tgt := 23) hx hb dC_isThere_7 (by decide) (fun hc2 => ?_) (fun hc2 => ?_)
    · replace hr := (if_pos hc2).symm.trans hr
      refine lv_iconst (v := 0) hx hb dC_isThere_23 (by decide) ?_
      obtain rfl := Option.some.inj hr
      exact W.zret (v := 0) hx hb hrt (by decide) (fun t ht _ => ⟨rfl, ht⟩) (fun _ z => nomatch z) dC_isThere_24 hlocks
    · replace hr := (if_neg hc2).symm.trans hr
      refine lv_aload_n hx hb dC_isThere_10 rfl (lv_at hl 0 rfl) ?_
      refine tp_gtC S hK hP 0 (by decide) (v := .ref (a 0)) tp_mC_f0 rfl dC_isThere_11 ?_
      refine lv_iload_n hx hb dC_isThere_14 rfl (lv_at hl 1 rfl) ?_
      by_cases hb3 : tp_oob x1 12
      · exact nomatch ((if_pos hb3).symm.trans hr)
      replace hr := (if_neg hb3).symm.trans hr
      refine va_iald hx hb hK hP 1 0 rfl rfl hb3 dC_isThere_15 ?_
      refine lv_if_le (tgt := 23) hx hb dC_isThere_16 (by decide) (fun hc4 => ?_) (fun hc4 => ?_)
      · replace hr := (if_pos hc4).symm.trans hr
        refine lv_iconst (v := 0) hx hb dC_isThere_23 (by decide) ?_
        obtain rfl := Option.some.inj hr
        exact W.zret (v := 0) hx hb hrt (by decide) (fun t ht _ => ⟨rfl, ht⟩) (fun _ z => nomatch z) dC_isThere_24 hlocks
      · replace hr := (if_neg hc4).symm.trans hr
        refine lv_iconst (v := 1) hx hb dC_isThere_19 (by decide) ?_
        refine lv_goto (tgt := 24) hx hb dC_isThere_20 (by decide) ?_
        obtain rfl := Option.some.inj hr
        exact W.zret (v := 1) hx hb hrt (by decide) (fun t ht _ => ⟨rfl, ht⟩) (fun _ z => nomatch z) dC_isThere_24 hlocks
set_option maxHeartbeats 4000000 in
set_option maxRecDepth 100000 in
theorem cC_disk (l : Launch) (hl0 : l.stackTraces = false) (D : va_G) (h : Nat) (a : Nat → Nat) (cI cZ : ClassId) (sz : Nat) (σ : tp_St) (x1 : Int32) (x2 : Int32) (r : (Nat × Int32 × tp_St)) (hr : fC_disk σ x1 x2 = some r) : vx_Met l tp_yC_disk (tp_wsT tp_yC_disk tp_bC_disk 3 none) { frames := 6, cells := 1, slots := 6, locals := 89 } (tp_PcX D [(cI, .int), (cZ, .boolean)] (tp_wC h a cI cZ σ) sz [.ref h, .int x1, .int x2]) (tp_qNC D h a cI cZ r (va_A (tp_wC h a cI cZ σ) sz)) (tp_qXC [1, 2, 3] D h a cI cZ r (va_A (tp_wC h a cI cZ σ) sz)) 1 6 (va_A (tp_wC h a cI cZ σ) sz) := by
  refine vx_ofW (cc := tp_bC_disk) (maxL := 3) (ret := none) (by decide) rfl ?_
  intro p e s m args below meth c s₁ B hml hnoh0 hv
  obtain ⟨rfl, hsz, hP, hK, hD0, hX⟩ := hv
  have hnoh : ∀ (x : ExceptionTableEntry), x ∈ c.exceptionTable.toList → False := hnoh0
  have hx := B.exec
  have hb := B.bytes
  have hrt := B.returns
  have hTB : ∀ w ∈ tp_TB, w.before _ s = true := fun w z => atoms_spec (ws := (tp_wsT tp_yC_disk tp_bC_disk 3 none)) B.pre w (List.mem_cons_of_mem _ z)
  have hown : s.vm.findClass tp_RC = some m.cls := findClass_of_methodNamed B.named
  have hlocks := B.notSynchronized
  have S : CallFix p m c tp_bC_disk 3 s _ tp_TB tp_RC := ⟨hx, hb, hml, hown, hTB⟩
  subst hsz
  have hD : va_D (va_A (tp_wC h a cI cZ σ) s.heap.size) (tp_wC h a cI cZ σ) := hD0.self
  have hA : ∀ q : Nat, s.heap.size ≤ q → va_A (tp_wC h a cI cZ σ) s.heap.size q := fun q z => Or.inr z
  have hS : va_S (va_A (tp_wC h a cI cZ σ) s.heap.size) s.heap s.heap [] := va_S.rf
  have hl := lv_entry ([.ref h, .int x1, .int x2]) (n := 3) (Nat.le_of_ble_eq_true rfl)
  rw [lg_entry_eq]
  generalize (lg_sl ([.ref h, .int x1, .int x2]) ++ List.replicate (3 - (lg_sl ([.ref h, .int x1, .int x2])).length) Slot.unset).toArray = ls at hl ⊢
  have hl : lv_has ls 3 [(0, .ref h), (1, .int x1), (2, .int x2)] := hl
  rw [fC_disk] at hr
  refine lv_iload_n hx hb dC_disk_0 rfl (lv_at hl 1 rfl) ?_
  refine lv_if_lt (tgt := 10) hx hb dC_disk_1 (by decide) (fun hc1 => ?_) (fun hc1 => ?_)
  · replace hr := (if_pos hc1).symm.trans hr
    obtain rfl := Option.some.inj hr
    exact tp_thrC (k := 1) hx hb hl0 hown (by decide) tp_xC_1 hTB hX hS hP (hl.1.trans hml.symm) dC_disk_10 dC_disk_13 dC_disk_14 dC_disk_17 hnoh (Nat.le_of_ble_eq_true rfl) (Nat.le_of_ble_eq_true rfl) (Nat.le_of_ble_eq_true rfl) (Nat.le_of_ble_eq_true rfl) hlocks
  · replace hr := (if_neg hc1).symm.trans hr
    refine lv_iload_n hx hb dC_disk_4 rfl (lv_at hl 1 rfl) ?_
    refine lv_bipush (v := 12) hx hb dC_disk_5 (by decide) ?_
    refine lv_icmp_lt (tgt := 18) hx hb dC_disk_7 (by decide) (fun hc2 => ?_) (fun hc2 => ?_)
    · replace hr := (if_pos hc2).symm.trans hr
      refine lv_aload_n hx hb dC_disk_18 rfl (lv_at hl 0 rfl) ?_
      refine lv_iload_n hx hb dC_disk_19 rfl (lv_at hl 1 rfl) ?_
      obtain ⟨q3, hq4, hr⟩ := Option.bind_eq_some_iff.mp hr
      refine tp_kP (rest := []) S hK hP hD rfl rfl (cC_isThere l D h a cI cZ _ σ x1 q3 hq4) (cwV 1 hTB tp_gC_isThere rfl rfl rfl ⟨rfl, by decide, by decide, by decide +kernel⟩ ⟨Nat.le_of_ble_eq_true rfl, Nat.le_of_ble_eq_true rfl⟩) rfl hl.1 rfl (Nat.le_of_ble_eq_true rfl) dC_disk_20 ⟨Nat.zero_le _, Nat.zero_le _⟩ ?_
      refine lv_if_eq (tgt := 34) hx hb dC_disk_23 (by decide) (fun hc5 => ?_) (fun hc5 => ?_)
      · replace hr := (if_pos hc5).symm.trans hr
        refine lv_iload_n hx hb dC_disk_34 rfl (lv_at hl 2 rfl) ?_
        refine lv_iconst (v := 1) hx hb dC_disk_35 (by decide) ?_
        refine lv_icmp_lt (tgt := 46) hx hb dC_disk_36 (by decide) (fun hc6 => ?_) (fun hc6 => ?_)
        · replace hr := (if_pos hc6).symm.trans hr
          obtain rfl := Option.some.inj hr
          exact tp_thrC (k := 3) hx hb hl0 hown (by decide) tp_xC_3 hTB hX hS hP (hl.1.trans hml.symm) dC_disk_46 dC_disk_49 dC_disk_50 dC_disk_53 hnoh (Nat.le_of_ble_eq_true rfl) (Nat.le_of_ble_eq_true rfl) (Nat.le_of_ble_eq_true rfl) (Nat.le_of_ble_eq_true rfl) hlocks
        · replace hr := (if_neg hc6).symm.trans hr
          refine lv_iload_n hx hb dC_disk_39 rfl (lv_at hl 2 rfl) ?_
          refine lv_sipush (v := 200) hx hb dC_disk_40 (by decide) ?_
          refine lv_icmp_le (tgt := 54) hx hb dC_disk_43 (by decide) (fun hc7 => ?_) (fun hc7 => ?_)
          · replace hr := (if_pos hc7).symm.trans hr
            refine lv_aload_n hx hb dC_disk_54 rfl (lv_at hl 0 rfl) ?_
            refine tp_gtC S hK hP 0 (by decide) (v := .ref (a 0)) tp_mC_f0 rfl dC_disk_55 ?_
            refine lv_iload_n hx hb dC_disk_58 rfl (lv_at hl 1 rfl) ?_
            refine lv_iload_n hx hb dC_disk_59 rfl (lv_at hl 2 rfl) ?_
            by_cases hb8 : tp_oob x1 12
            · exact nomatch ((if_pos hb8).symm.trans hr)
            replace hr := (if_neg hb8).symm.trans hr
            refine tp_asC0 S hK hP hD hS hb8 dC_disk_60 (fun H locs hP hD hS => ?_)
            obtain rfl := Option.some.inj hr
            refine vx_ret (W.widen (k := 1) (n := 6) (Nat.zero_le _) (Nat.zero_le _) ?_)
            exact W.vret hx hb hrt (fun t ht _ => ⟨⟨(tp_up σ 0 x1.toNatClampNeg x2), rfl, rfl, by show va_P D tp_CL _ t.heap; rw [ht]; exact hP⟩, hS.F ht⟩) hS.2.2 dC_disk_61 hlocks
          · replace hr := (if_neg hc7).symm.trans hr
            obtain rfl := Option.some.inj hr
            exact tp_thrC (k := 3) hx hb hl0 hown (by decide) tp_xC_3 hTB hX hS hP (hl.1.trans hml.symm) dC_disk_46 dC_disk_49 dC_disk_50 dC_disk_53 hnoh (Nat.le_of_ble_eq_true rfl) (Nat.le_of_ble_eq_true rfl) (Nat.le_of_ble_eq_true rfl) (Nat.le_of_ble_eq_true rfl) hlocks
      · replace hr := (if_neg hc5).symm.trans hr
        obtain rfl := Option.some.inj hr
        exact tp_thrC (k := 2) hx hb hl0 hown (by decide) tp_xC_2 hTB hX hS hP (hl.1.trans hml.symm) dC_disk_26 dC_disk_29 dC_disk_30 dC_disk_33 hnoh (Nat.le_of_ble_eq_true rfl) (Nat.le_of_ble_eq_true rfl) (Nat.le_of_ble_eq_true rfl) (Nat.le_of_ble_eq_true rfl) hlocks
    · replace hr := (if_neg hc2).symm.trans hr
      obtain rfl := Option.some.inj hr
      exact tp_thrC (k := 1) hx hb hl0 hown (by decide) tp_xC_1 hTB hX hS hP (hl.1.trans hml.symm) dC_disk_10 dC_disk_13 dC_disk_14 dC_disk_17 hnoh (Nat.le_of_ble_eq_true rfl) (Nat.le_of_ble_eq_true rfl) (Nat.le_of_ble_eq_true rfl) (Nat.le_of_ble_eq_true rfl) hlocks
set_option maxHeartbeats 4000000 in
set_option maxRecDepth 100000 in
theorem cC_leastUnusedNumber (l : Launch) (D : va_G) (h : Nat) (a : Nat → Nat) (cI cZ : ClassId) (sz : Nat) (σ : tp_St) (r : Int32) (hr : fC_leastUnusedNumber σ = some r) : Met l tp_yC_leastUnusedNumber (tp_wsT tp_yC_leastUnusedNumber tp_bC_leastUnusedNumber 2 (some .int)) { frames := 0, cells := 0, slots := 0, locals := 0 } (tp_PcW D [(cI, .int), (cZ, .boolean)] (tp_wC h a cI cZ σ) sz [.ref h]) (tp_qI r) 0 0 tp_noF := by
  refine Met.ofW (cc := tp_bC_leastUnusedNumber) (maxL := 2) (ret := (some .int)) (by decide) rfl ?_
  intro p e s m args below meth c s₁ B hml hv
  obtain ⟨rfl, hsz, hP, hK, hD0⟩ := hv
  have hx := B.exec
  have hb := B.bytes
  have hrt := B.returns
  have hTB : ∀ w ∈ tp_TB, w.before _ s = true := fun w z => atoms_spec (ws := (tp_wsT tp_yC_leastUnusedNumber tp_bC_leastUnusedNumber 2 (some .int))) B.pre w (List.mem_cons_of_mem _ z)
  have hown : s.vm.findClass tp_RC = some m.cls := findClass_of_methodNamed B.named
  have hlocks := B.notSynchronized
  have S : CallFix p m c tp_bC_leastUnusedNumber 2 s _ tp_TB tp_RC := ⟨hx, hb, hml, hown, hTB⟩
  subst hsz
  have hD : va_D (va_A (tp_wC h a cI cZ σ) s.heap.size) (tp_wC h a cI cZ σ) := hD0.self
  have hl := lv_entry ([.ref h]) (n := 2) (Nat.le_of_ble_eq_true rfl)
  rw [lg_entry_eq]
  generalize (lg_sl ([.ref h]) ++ List.replicate (2 - (lg_sl ([.ref h])).length) Slot.unset).toArray = ls at hl ⊢
  have hl : lv_has ls 2 [(0, .ref h)] := hl
  rw [fC_leastUnusedNumber] at hr
  refine lv_iconst (v := 0) hx hb dC_leastUnusedNumber_0 (by decide) ?_
  refine lv_istore_n hx hb dC_leastUnusedNumber_1 rfl hl (by decide) rfl (fun ls hl => ?_)
  have hl : lv_has ls 2 [(1, .int 0), (0, .ref h)] := hl
  have loop2 : ∀ (n2 : Nat) (x1 : Int32) (ls : Array Slot), fC_leastUnusedNumber_L2 σ  n2 x1 = some r → lv_has ls 2 [(0, .ref h), (1, .int x1)] → W p l e { frames := 0, cells := 0, slots := 0, locals := 0 } s m (([.ref h] : List Value).toArray) below meth c s.heap [] 0 0 (MQ below (tp_qI r) (([.ref h] : List Value).toArray) s 0 0 tp_noF) (F0 m 2 ls []) := by
    intro n2
    induction n2 with
    | zero => intro x1 ls hr hl; exact nomatch (show (none : Option Int32) = some r from hr)
    | succ n2 ih2 =>
      intro x1 ls hr hl
      rw [fC_leastUnusedNumber_L2] at hr
      refine lv_iload_n hx hb dC_leastUnusedNumber_2 rfl (lv_at hl 1 rfl) ?_
      refine lv_sipush (v := 400) hx hb dC_leastUnusedNumber_3 (by decide) ?_
      refine lv_icmp_ge (tgt := 26) hx hb dC_leastUnusedNumber_6 (by decide) (fun hc1 => ?_) (fun hc1 => ?_)
      · replace hr := (if_pos hc1).symm.trans hr
        refine lv_iconst (v := (-1)) hx hb dC_leastUnusedNumber_26 (by decide) ?_
        obtain rfl := Option.some.inj hr
        exact W.iret (v := (-1)) hx hb hrt (fun t ht _ => ⟨rfl, ht⟩) (fun _ z => nomatch z) dC_leastUnusedNumber_27 hlocks
      · replace hr := (if_neg hc1).symm.trans hr
        refine lv_aload_n hx hb dC_leastUnusedNumber_9 rfl (lv_at hl 0 rfl) ?_
        refine tp_gtC S hK hP 3 (by decide) (v := .ref (a 3)) tp_mC_f3 rfl dC_leastUnusedNumber_10 ?_
        refine lv_iload_n hx hb dC_leastUnusedNumber_13 rfl (lv_at hl 1 rfl) ?_
        by_cases hb2 : tp_oob x1 400
        · exact nomatch ((if_pos hb2).symm.trans hr)
        replace hr := (if_neg hb2).symm.trans hr
        refine va_zald hx hb hK hP 4 1 rfl rfl hb2 dC_leastUnusedNumber_14 ?_
        refine lv_if_ne (tgt := 20) hx hb dC_leastUnusedNumber_15 (by decide) (fun hc3 => ?_) (fun hc3 => ?_)
        · replace hr := (if_neg hc3).symm.trans hr
          refine lv_iinc (k := 1) (v := (x1 + 1)) hx hb dC_leastUnusedNumber_20 hl rfl (tp_ii1 _) (by decide) rfl (fun ls hl => ?_)
          have hl : lv_has ls 2 [(1, .int (x1 + 1)), (0, .ref h)] := hl
          refine lv_goto (tgt := 2) hx hb dC_leastUnusedNumber_23 (by decide) ?_
          exact ih2 (x1 + 1) ls hr (lv_sub hl [1, 0] rfl)
        · replace hr := (if_pos hc3).symm.trans hr
          refine lv_iload_n hx hb dC_leastUnusedNumber_18 rfl (lv_at hl 1 rfl) ?_
          obtain rfl := Option.some.inj hr
          exact W.iret (v := x1) hx hb hrt (fun t ht _ => ⟨rfl, ht⟩) (fun _ z => nomatch z) dC_leastUnusedNumber_19 hlocks
  exact loop2 401 0 ls hr (lv_sub hl [1, 0] rfl)
set_option maxHeartbeats 4000000 in
set_option maxRecDepth 100000 in
theorem cC_stays (l : Launch) (D : va_G) (h : Nat) (a : Nat → Nat) (cI cZ : ClassId) (sz : Nat) (σ : tp_St) (x1 : Int32) (r : Int32) (hr : fC_stays σ x1 = some r) : Met l tp_yC_stays (tp_wsT tp_yC_stays tp_bC_stays 2 (some .boolean)) { frames := 1, cells := 0, slots := 0, locals := 21 } (tp_PcW D [(cI, .int), (cZ, .boolean)] (tp_wC h a cI cZ σ) sz [.ref h, .int x1]) (tp_qI r) 0 0 tp_noF := by
  refine Met.ofW (cc := tp_bC_stays) (maxL := 2) (ret := (some .boolean)) (by decide) rfl ?_
  intro p e s m args below meth c s₁ B hml hv
  obtain ⟨rfl, hsz, hP, hK, hD0⟩ := hv
  have hx := B.exec
  have hb := B.bytes
  have hrt := B.returns
  have hTB : ∀ w ∈ tp_TB, w.before _ s = true := fun w z => atoms_spec (ws := (tp_wsT tp_yC_stays tp_bC_stays 2 (some .boolean))) B.pre w (List.mem_cons_of_mem _ z)
  have hown : s.vm.findClass tp_RC = some m.cls := findClass_of_methodNamed B.named
  have hlocks := B.notSynchronized
  have S : CallFix p m c tp_bC_stays 2 s _ tp_TB tp_RC := ⟨hx, hb, hml, hown, hTB⟩
  subst hsz
  have hD : va_D (va_A (tp_wC h a cI cZ σ) s.heap.size) (tp_wC h a cI cZ σ) := hD0.self
  have hl := lv_entry ([.ref h, .int x1]) (n := 2) (Nat.le_of_ble_eq_true rfl)
  rw [lg_entry_eq]
  generalize (lg_sl ([.ref h, .int x1]) ++ List.replicate (2 - (lg_sl ([.ref h, .int x1])).length) Slot.unset).toArray = ls at hl ⊢
  have hl : lv_has ls 2 [(0, .ref h), (1, .int x1)] := hl
  rw [fC_stays] at hr
  refine lv_aload_n hx hb dC_stays_0 rfl (lv_at hl 0 rfl) ?_
  refine lv_iload_n hx hb dC_stays_1 rfl (lv_at hl 1 rfl) ?_
  obtain ⟨q1, hq2, hr⟩ := Option.bind_eq_some_iff.mp hr
  refine tp_kP (rest := []) S hK hP hD rfl rfl (cC_isThere l D h a cI cZ _ σ x1 q1 hq2) (cwV 1 hTB tp_gC_isThere rfl rfl rfl ⟨rfl, by decide, by decide, by decide +kernel⟩ ⟨Nat.le_of_ble_eq_true rfl, Nat.le_of_ble_eq_true rfl⟩) rfl hl.1 rfl (Nat.le_of_ble_eq_true rfl) dC_stays_2 ⟨Nat.zero_le _, Nat.zero_le _⟩ ?_
  refine lv_if_eq (tgt := 21) hx hb dC_stays_5 (by decide) (fun hc3 => ?_) (fun hc3 => ?_)
  · replace hr := (if_pos hc3).symm.trans hr
    refine lv_iconst (v := 0) hx hb dC_stays_21 (by decide) ?_
    obtain rfl := Option.some.inj hr
    exact W.zret (v := 0) hx hb hrt (by decide) (fun t ht _ => ⟨rfl, ht⟩) (fun _ z => nomatch z) dC_stays_22 hlocks
  · replace hr := (if_neg hc3).symm.trans hr
    refine lv_aload_n hx hb dC_stays_8 rfl (lv_at hl 0 rfl) ?_
    refine tp_gtC S hK hP 2 (by decide) (v := .ref (a 2)) tp_mC_f2 rfl dC_stays_9 ?_
    refine lv_iload_n hx hb dC_stays_12 rfl (lv_at hl 1 rfl) ?_
    by_cases hb4 : tp_oob x1 12
    · exact nomatch ((if_pos hb4).symm.trans hr)
    replace hr := (if_neg hb4).symm.trans hr
    refine va_zald hx hb hK hP 3 1 rfl rfl hb4 dC_stays_13 ?_
    refine lv_if_ne (tgt := 21) hx hb dC_stays_14 (by decide) (fun hc5 => ?_) (fun hc5 => ?_)
    · replace hr := (if_neg hc5).symm.trans hr
      refine lv_iconst (v := 0) hx hb dC_stays_21 (by decide) ?_
      obtain rfl := Option.some.inj hr
      exact W.zret (v := 0) hx hb hrt (by decide) (fun t ht _ => ⟨rfl, ht⟩) (fun _ z => nomatch z) dC_stays_22 hlocks
    · replace hr := (if_pos hc5).symm.trans hr
      refine lv_iconst (v := 1) hx hb dC_stays_17 (by decide) ?_
      refine lv_goto (tgt := 22) hx hb dC_stays_18 (by decide) ?_
      obtain rfl := Option.some.inj hr
      exact W.zret (v := 1) hx hb hrt (by decide) (fun t ht _ => ⟨rfl, ht⟩) (fun _ z => nomatch z) dC_stays_22 hlocks
set_option maxHeartbeats 4000000 in
set_option maxRecDepth 100000 in
theorem cC_freePlaces (l : Launch) (D : va_G) (h : Nat) (a : Nat → Nat) (cI cZ : ClassId) (sz : Nat) (σ : tp_St) (x1 : Int32) (r : Int32) (hr : fC_freePlaces σ x1 = some r) : Met l tp_yC_freePlaces (tp_wsT tp_yC_freePlaces tp_bC_freePlaces 2 (some .int)) { frames := 0, cells := 0, slots := 0, locals := 0 } (tp_PcW D [(cI, .int), (cZ, .boolean)] (tp_wC h a cI cZ σ) sz [.ref h, .int x1]) (tp_qI r) 0 0 tp_noF := by
  refine Met.ofW (cc := tp_bC_freePlaces) (maxL := 2) (ret := (some .int)) (by decide) rfl ?_
  intro p e s m args below meth c s₁ B hml hv
  obtain ⟨rfl, hsz, hP, hK, hD0⟩ := hv
  have hx := B.exec
  have hb := B.bytes
  have hrt := B.returns
  have hTB : ∀ w ∈ tp_TB, w.before _ s = true := fun w z => atoms_spec (ws := (tp_wsT tp_yC_freePlaces tp_bC_freePlaces 2 (some .int))) B.pre w (List.mem_cons_of_mem _ z)
  have hown : s.vm.findClass tp_RC = some m.cls := findClass_of_methodNamed B.named
  have hlocks := B.notSynchronized
  have S : CallFix p m c tp_bC_freePlaces 2 s _ tp_TB tp_RC := ⟨hx, hb, hml, hown, hTB⟩
  subst hsz
  have hD : va_D (va_A (tp_wC h a cI cZ σ) s.heap.size) (tp_wC h a cI cZ σ) := hD0.self
  have hl := lv_entry ([.ref h, .int x1]) (n := 2) (Nat.le_of_ble_eq_true rfl)
  rw [lg_entry_eq]
  generalize (lg_sl ([.ref h, .int x1]) ++ List.replicate (2 - (lg_sl ([.ref h, .int x1])).length) Slot.unset).toArray = ls at hl ⊢
  have hl : lv_has ls 2 [(0, .ref h), (1, .int x1)] := hl
  rw [fC_freePlaces] at hr
  refine lv_aload_n hx hb dC_freePlaces_0 rfl (lv_at hl 0 rfl) ?_
  refine tp_gtC S hK hP 0 (by decide) (v := .ref (a 0)) tp_mC_f0 rfl dC_freePlaces_1 ?_
  refine lv_iload_n hx hb dC_freePlaces_4 rfl (lv_at hl 1 rfl) ?_
  by_cases hb1 : tp_oob x1 12
  · exact nomatch ((if_pos hb1).symm.trans hr)
  replace hr := (if_neg hb1).symm.trans hr
  refine va_iald hx hb hK hP 1 0 rfl rfl hb1 dC_freePlaces_5 ?_
  refine lv_aload_n hx hb dC_freePlaces_6 rfl (lv_at hl 0 rfl) ?_
  refine tp_gtC S hK hP 1 (by decide) (v := .ref (a 1)) tp_mC_f1 rfl dC_freePlaces_7 ?_
  refine lv_iload_n hx hb dC_freePlaces_10 rfl (lv_at hl 1 rfl) ?_
  refine va_iald hx hb hK hP 2 0 rfl rfl hb1 dC_freePlaces_11 ?_
  refine lv_isub hx hb dC_freePlaces_12 ?_
  obtain rfl := Option.some.inj hr
  exact W.iret (v := ((σ 0 x1.toNatClampNeg) - (σ 1 x1.toNatClampNeg))) hx hb hrt (fun t ht _ => ⟨rfl, ht⟩) (fun _ z => nomatch z) dC_freePlaces_13 hlocks
set_option maxHeartbeats 4000000 in
set_option maxRecDepth 100000 in
theorem cC_emptiestBut (l : Launch) (D : va_G) (h : Nat) (a : Nat → Nat) (cI cZ : ClassId) (sz : Nat) (σ : tp_St) (x1 : Int32) (r : Int32) (hr : fC_emptiestBut σ x1 = some r) : Met l tp_yC_emptiestBut (tp_wsT tp_yC_emptiestBut tp_bC_emptiestBut 5 (some .int)) { frames := 2, cells := 0, slots := 0, locals := 42 } (tp_PcW D [(cI, .int), (cZ, .boolean)] (tp_wC h a cI cZ σ) sz [.ref h, .int x1]) (tp_qI r) 0 0 tp_noF := by
  refine Met.ofW (cc := tp_bC_emptiestBut) (maxL := 5) (ret := (some .int)) (by decide) rfl ?_
  intro p e s m args below meth c s₁ B hml hv
  obtain ⟨rfl, hsz, hP, hK, hD0⟩ := hv
  have hx := B.exec
  have hb := B.bytes
  have hrt := B.returns
  have hTB : ∀ w ∈ tp_TB, w.before _ s = true := fun w z => atoms_spec (ws := (tp_wsT tp_yC_emptiestBut tp_bC_emptiestBut 5 (some .int))) B.pre w (List.mem_cons_of_mem _ z)
  have hown : s.vm.findClass tp_RC = some m.cls := findClass_of_methodNamed B.named
  have hlocks := B.notSynchronized
  have S : CallFix p m c tp_bC_emptiestBut 5 s _ tp_TB tp_RC := ⟨hx, hb, hml, hown, hTB⟩
  subst hsz
  have hD : va_D (va_A (tp_wC h a cI cZ σ) s.heap.size) (tp_wC h a cI cZ σ) := hD0.self
  have hl := lv_entry ([.ref h, .int x1]) (n := 5) (Nat.le_of_ble_eq_true rfl)
  rw [lg_entry_eq]
  generalize (lg_sl ([.ref h, .int x1]) ++ List.replicate (5 - (lg_sl ([.ref h, .int x1])).length) Slot.unset).toArray = ls at hl ⊢
  have hl : lv_has ls 5 [(0, .ref h), (1, .int x1)] := hl
  rw [fC_emptiestBut] at hr
  refine lv_iconst (v := (-1)) hx hb dC_emptiestBut_0 (by decide) ?_
  refine lv_istore_n hx hb dC_emptiestBut_1 rfl hl (by decide) rfl (fun ls hl => ?_)
  have hl : lv_has ls 5 [(2, .int (-1)), (0, .ref h), (1, .int x1)] := hl
  refine lv_iconst (v := 0) hx hb dC_emptiestBut_2 (by decide) ?_
  refine lv_istore_n hx hb dC_emptiestBut_3 rfl hl (by decide) rfl (fun ls hl => ?_)
  have hl : lv_has ls 5 [(3, .int 0), (2, .int (-1)), (0, .ref h), (1, .int x1)] := hl
  refine lv_iconst (v := 0) hx hb dC_emptiestBut_4 (by decide) ?_
  refine lv_istore hx hb dC_emptiestBut_5 hl (by decide) rfl (fun ls hl => ?_)
  have hl : lv_has ls 5 [(4, .int 0), (3, .int 0), (2, .int (-1)), (0, .ref h), (1, .int x1)] := hl
  have loop7 : ∀ (n7 : Nat) (x2 : Int32) (x3 : Int32) (x4 : Int32) (ls : Array Slot), fC_emptiestBut_L7 σ x1 n7 x2 x3 x4 = some r → lv_has ls 5 [(0, .ref h), (1, .int x1), (2, .int x2), (3, .int x3), (4, .int x4)] → W p l e { frames := 2, cells := 0, slots := 0, locals := 42 } s m (([.ref h, .int x1] : List Value).toArray) below meth c s.heap [] 0 0 (MQ below (tp_qI r) (([.ref h, .int x1] : List Value).toArray) s 0 0 tp_noF) (F0 m 7 ls []) := by
    intro n7
    induction n7 with
    | zero => intro x2 x3 x4 ls hr hl; exact nomatch (show (none : Option Int32) = some r from hr)
    | succ n7 ih7 =>
      intro x2 x3 x4 ls hr hl
      rw [fC_emptiestBut_L7] at hr
      refine lv_iload hx hb dC_emptiestBut_7 (lv_at hl 4 rfl) ?_
      refine lv_bipush (v := 12) hx hb dC_emptiestBut_9 (by decide) ?_
      refine lv_icmp_ge (tgt := 55) hx hb dC_emptiestBut_11 (by decide) (fun hc1 => ?_) (fun hc1 => ?_)
      · replace hr := (if_pos hc1).symm.trans hr
        refine lv_iload_n hx hb dC_emptiestBut_55 rfl (lv_at hl 2 rfl) ?_
        obtain rfl := Option.some.inj hr
        exact W.iret (v := x2) hx hb hrt (fun t ht _ => ⟨rfl, ht⟩) (fun _ z => nomatch z) dC_emptiestBut_56 hlocks
      · replace hr := (if_neg hc1).symm.trans hr
        refine lv_iload hx hb dC_emptiestBut_14 (lv_at hl 4 rfl) ?_
        refine lv_iload_n hx hb dC_emptiestBut_16 rfl (lv_at hl 1 rfl) ?_
        refine lv_icmp_eq (tgt := 49) hx hb dC_emptiestBut_17 (by decide) (fun hc2 => ?_) (fun hc2 => ?_)
        · replace hr := (if_pos hc2).symm.trans hr
          refine lv_iinc (k := 4) (v := (x4 + 1)) hx hb dC_emptiestBut_49 hl rfl (tp_ii1 _) (by decide) rfl (fun ls hl => ?_)
          have hl : lv_has ls 5 [(4, .int (x4 + 1)), (0, .ref h), (1, .int x1), (2, .int x2), (3, .int x3)] := hl
          refine lv_goto (tgt := 7) hx hb dC_emptiestBut_52 (by decide) ?_
          exact ih7 x2 x3 (x4 + 1) ls hr (lv_sub hl [1, 2, 3, 4, 0] rfl)
        · replace hr := (if_neg hc2).symm.trans hr
          refine lv_aload_n hx hb dC_emptiestBut_20 rfl (lv_at hl 0 rfl) ?_
          refine lv_iload hx hb dC_emptiestBut_21 (lv_at hl 4 rfl) ?_
          obtain ⟨q3, hq4, hr⟩ := Option.bind_eq_some_iff.mp hr
          refine tp_kP (rest := []) S hK hP hD rfl rfl (cC_stays l D h a cI cZ _ σ x4 q3 hq4) (cwV 1 hTB tp_gC_stays rfl rfl rfl ⟨rfl, by decide, by decide, by decide +kernel⟩ ⟨Nat.le_of_ble_eq_true rfl, Nat.le_of_ble_eq_true rfl⟩) rfl hl.1 rfl (Nat.le_of_ble_eq_true rfl) dC_emptiestBut_23 ⟨Nat.zero_le _, Nat.zero_le _⟩ ?_
          refine lv_if_eq (tgt := 49) hx hb dC_emptiestBut_26 (by decide) (fun hc5 => ?_) (fun hc5 => ?_)
          · replace hr := (if_pos hc5).symm.trans hr
            refine lv_iinc (k := 4) (v := (x4 + 1)) hx hb dC_emptiestBut_49 hl rfl (tp_ii1 _) (by decide) rfl (fun ls hl => ?_)
            have hl : lv_has ls 5 [(4, .int (x4 + 1)), (0, .ref h), (1, .int x1), (2, .int x2), (3, .int x3)] := hl
            refine lv_goto (tgt := 7) hx hb dC_emptiestBut_52 (by decide) ?_
            exact ih7 x2 x3 (x4 + 1) ls hr (lv_sub hl [1, 2, 3, 4, 0] rfl)
          · replace hr := (if_neg hc5).symm.trans hr
            refine lv_aload_n hx hb dC_emptiestBut_29 rfl (lv_at hl 0 rfl) ?_
            refine lv_iload hx hb dC_emptiestBut_30 (lv_at hl 4 rfl) ?_
            obtain ⟨q6, hq7, hr⟩ := Option.bind_eq_some_iff.mp hr
            refine tp_kP (rest := []) S hK hP hD rfl rfl (cC_freePlaces l D h a cI cZ _ σ x4 q6 hq7) (cwV 1 hTB tp_gC_freePlaces rfl rfl rfl ⟨rfl, by decide, by decide, by decide +kernel⟩ ⟨Nat.le_of_ble_eq_true rfl, Nat.le_of_ble_eq_true rfl⟩) rfl hl.1 rfl (Nat.le_of_ble_eq_true rfl) dC_emptiestBut_32 ⟨Nat.zero_le _, Nat.zero_le _⟩ ?_
            refine lv_iload_n hx hb dC_emptiestBut_35 rfl (lv_at hl 3 rfl) ?_
            refine lv_icmp_le (tgt := 49) hx hb dC_emptiestBut_36 (by decide) (fun hc8 => ?_) (fun hc8 => ?_)
            · replace hr := (if_pos hc8).symm.trans hr
              refine lv_iinc (k := 4) (v := (x4 + 1)) hx hb dC_emptiestBut_49 hl rfl (tp_ii1 _) (by decide) rfl (fun ls hl => ?_)
              have hl : lv_has ls 5 [(4, .int (x4 + 1)), (0, .ref h), (1, .int x1), (2, .int x2), (3, .int x3)] := hl
              refine lv_goto (tgt := 7) hx hb dC_emptiestBut_52 (by decide) ?_
              exact ih7 x2 x3 (x4 + 1) ls hr (lv_sub hl [1, 2, 3, 4, 0] rfl)
            · replace hr := (if_neg hc8).symm.trans hr
              refine lv_iload hx hb dC_emptiestBut_39 (lv_at hl 4 rfl) ?_
              refine lv_istore_n hx hb dC_emptiestBut_41 rfl hl (by decide) rfl (fun ls hl => ?_)
              have hl : lv_has ls 5 [(2, .int x4), (0, .ref h), (1, .int x1), (3, .int x3), (4, .int x4)] := hl
              refine lv_aload_n hx hb dC_emptiestBut_42 rfl (lv_at hl 1 rfl) ?_
              refine lv_iload hx hb dC_emptiestBut_43 (lv_at hl 4 rfl) ?_
              obtain ⟨q9, hq10, hr⟩ := Option.bind_eq_some_iff.mp hr
              refine tp_kP (rest := []) S hK hP hD rfl rfl (cC_freePlaces l D h a cI cZ _ σ x4 q9 hq10) (cwV 1 hTB tp_gC_freePlaces rfl rfl rfl ⟨rfl, by decide, by decide, by decide +kernel⟩ ⟨Nat.le_of_ble_eq_true rfl, Nat.le_of_ble_eq_true rfl⟩) rfl hl.1 rfl (Nat.le_of_ble_eq_true rfl) dC_emptiestBut_45 ⟨Nat.zero_le _, Nat.zero_le _⟩ ?_
              refine lv_istore_n hx hb dC_emptiestBut_48 rfl hl (by decide) rfl (fun ls hl => ?_)
              have hl : lv_has ls 5 [(3, .int q9), (2, .int x4), (0, .ref h), (1, .int x1), (4, .int x4)] := hl
              refine lv_iinc (k := 4) (v := (x4 + 1)) hx hb dC_emptiestBut_49 hl rfl (tp_ii1 _) (by decide) rfl (fun ls hl => ?_)
              have hl : lv_has ls 5 [(4, .int (x4 + 1)), (3, .int q9), (2, .int x4), (0, .ref h), (1, .int x1)] := hl
              refine lv_goto (tgt := 7) hx hb dC_emptiestBut_52 (by decide) ?_
              exact ih7 x4 q9 (x4 + 1) ls hr (lv_sub hl [3, 4, 2, 1, 0] rfl)
  exact loop7 13 (-1) 0 0 ls hr (lv_sub hl [3, 4, 2, 1, 0] rfl)
set_option maxHeartbeats 4000000 in
set_option maxRecDepth 100000 in
theorem cC_isOn (l : Launch) (D : va_G) (h : Nat) (a : Nat → Nat) (cI cZ : ClassId) (sz : Nat) (σ : tp_St) (x1 : Int32) (x2 : Int32) (r : Int32) (hr : fC_isOn σ x1 x2 = some r) : Met l tp_yC_isOn (tp_wsT tp_yC_isOn tp_bC_isOn 3 (some .boolean)) { frames := 0, cells := 0, slots := 0, locals := 0 } (tp_PcW D [(cI, .int), (cZ, .boolean)] (tp_wC h a cI cZ σ) sz [.ref h, .int x1, .int x2]) (tp_qI r) 0 0 tp_noF := by
  refine Met.ofW (cc := tp_bC_isOn) (maxL := 3) (ret := (some .boolean)) (by decide) rfl ?_
  intro p e s m args below meth c s₁ B hml hv
  obtain ⟨rfl, hsz, hP, hK, hD0⟩ := hv
  have hx := B.exec
  have hb := B.bytes
  have hrt := B.returns
  have hTB : ∀ w ∈ tp_TB, w.before _ s = true := fun w z => atoms_spec (ws := (tp_wsT tp_yC_isOn tp_bC_isOn 3 (some .boolean))) B.pre w (List.mem_cons_of_mem _ z)
  have hown : s.vm.findClass tp_RC = some m.cls := findClass_of_methodNamed B.named
  have hlocks := B.notSynchronized
  have S : CallFix p m c tp_bC_isOn 3 s _ tp_TB tp_RC := ⟨hx, hb, hml, hown, hTB⟩
  subst hsz
  have hD : va_D (va_A (tp_wC h a cI cZ σ) s.heap.size) (tp_wC h a cI cZ σ) := hD0.self
  have hl := lv_entry ([.ref h, .int x1, .int x2]) (n := 3) (Nat.le_of_ble_eq_true rfl)
  rw [lg_entry_eq]
  generalize (lg_sl ([.ref h, .int x1, .int x2]) ++ List.replicate (3 - (lg_sl ([.ref h, .int x1, .int x2])).length) Slot.unset).toArray = ls at hl ⊢
  have hl : lv_has ls 3 [(0, .ref h), (1, .int x1), (2, .int x2)] := hl
  rw [fC_isOn] at hr
  refine lv_aload_n hx hb dC_isOn_0 rfl (lv_at hl 0 rfl) ?_
  refine tp_gtC S hK hP 4 (by decide) (v := .ref (a 4)) tp_mC_f4 rfl dC_isOn_1 ?_
  refine lv_iload_n hx hb dC_isOn_4 rfl (lv_at hl 1 rfl) ?_
  by_cases hb1 : tp_oob x1 400
  · exact nomatch ((if_pos hb1).symm.trans hr)
  replace hr := (if_neg hb1).symm.trans hr
  refine va_iald hx hb hK hP 5 0 rfl rfl hb1 dC_isOn_5 ?_
  refine lv_iload_n hx hb dC_isOn_6 rfl (lv_at hl 2 rfl) ?_
  refine lv_icmp_eq (tgt := 20) hx hb dC_isOn_7 (by decide) (fun hc2 => ?_) (fun hc2 => ?_)
  · replace hr := (if_pos hc2).symm.trans hr
    refine lv_iconst (v := 1) hx hb dC_isOn_20 (by decide) ?_
    refine lv_goto (tgt := 25) hx hb dC_isOn_21 (by decide) ?_
    obtain rfl := Option.some.inj hr
    exact W.zret (v := 1) hx hb hrt (by decide) (fun t ht _ => ⟨rfl, ht⟩) (fun _ z => nomatch z) dC_isOn_25 hlocks
  · replace hr := (if_neg hc2).symm.trans hr
    refine lv_aload_n hx hb dC_isOn_10 rfl (lv_at hl 0 rfl) ?_
    refine tp_gtC S hK hP 5 (by decide) (v := .ref (a 5)) tp_mC_f5 rfl dC_isOn_11 ?_
    refine lv_iload_n hx hb dC_isOn_14 rfl (lv_at hl 1 rfl) ?_
    refine va_iald hx hb hK hP 6 0 rfl rfl hb1 dC_isOn_15 ?_
    refine lv_iload_n hx hb dC_isOn_16 rfl (lv_at hl 2 rfl) ?_
    refine lv_icmp_ne (tgt := 24) hx hb dC_isOn_17 (by decide) (fun hc3 => ?_) (fun hc3 => ?_)
    · replace hr := (if_neg hc3).symm.trans hr
      refine lv_iconst (v := 0) hx hb dC_isOn_24 (by decide) ?_
      obtain rfl := Option.some.inj hr
      exact W.zret (v := 0) hx hb hrt (by decide) (fun t ht _ => ⟨rfl, ht⟩) (fun _ z => nomatch z) dC_isOn_25 hlocks
    · replace hr := (if_pos hc3).symm.trans hr
      refine lv_iconst (v := 1) hx hb dC_isOn_20 (by decide) ?_
      refine lv_goto (tgt := 25) hx hb dC_isOn_21 (by decide) ?_
      obtain rfl := Option.some.inj hr
      exact W.zret (v := 1) hx hb hrt (by decide) (fun t ht _ => ⟨rfl, ht⟩) (fun _ z => nomatch z) dC_isOn_25 hlocks
set_option maxHeartbeats 4000000 in
set_option maxRecDepth 100000 in
theorem cC_copyForRoom (l : Launch) (D : va_G) (h : Nat) (a : Nat → Nat) (cI cZ : ClassId) (sz : Nat) (σ : tp_St) (x1 : Int32) (x2 : Int32) (r : Int32) (hr : fC_copyForRoom σ x1 x2 = some r) : Met l tp_yC_copyForRoom (tp_wsT tp_yC_copyForRoom tp_bC_copyForRoom 3 (some .int)) { frames := 2, cells := 0, slots := 0, locals := 42 } (tp_PcW D [(cI, .int), (cZ, .boolean)] (tp_wC h a cI cZ σ) sz [.ref h, .int x1, .int x2]) (tp_qI r) 0 0 tp_noF := by
  refine Met.ofW (cc := tp_bC_copyForRoom) (maxL := 3) (ret := (some .int)) (by decide) rfl ?_
  intro p e s m args below meth c s₁ B hml hv
  obtain ⟨rfl, hsz, hP, hK, hD0⟩ := hv
  have hx := B.exec
  have hb := B.bytes
  have hrt := B.returns
  have hTB : ∀ w ∈ tp_TB, w.before _ s = true := fun w z => atoms_spec (ws := (tp_wsT tp_yC_copyForRoom tp_bC_copyForRoom 3 (some .int))) B.pre w (List.mem_cons_of_mem _ z)
  have hown : s.vm.findClass tp_RC = some m.cls := findClass_of_methodNamed B.named
  have hlocks := B.notSynchronized
  have S : CallFix p m c tp_bC_copyForRoom 3 s _ tp_TB tp_RC := ⟨hx, hb, hml, hown, hTB⟩
  subst hsz
  have hD : va_D (va_A (tp_wC h a cI cZ σ) s.heap.size) (tp_wC h a cI cZ σ) := hD0.self
  have hl := lv_entry ([.ref h, .int x1, .int x2]) (n := 3) (Nat.le_of_ble_eq_true rfl)
  rw [lg_entry_eq]
  generalize (lg_sl ([.ref h, .int x1, .int x2]) ++ List.replicate (3 - (lg_sl ([.ref h, .int x1, .int x2])).length) Slot.unset).toArray = ls at hl ⊢
  have hl : lv_has ls 3 [(0, .ref h), (1, .int x1), (2, .int x2)] := hl
  rw [fC_copyForRoom] at hr
  refine lv_aload_n hx hb dC_copyForRoom_0 rfl (lv_at hl 0 rfl) ?_
  refine lv_iload_n hx hb dC_copyForRoom_1 rfl (lv_at hl 1 rfl) ?_
  refine lv_iload_n hx hb dC_copyForRoom_2 rfl (lv_at hl 2 rfl) ?_
  obtain ⟨q1, hq2, hr⟩ := Option.bind_eq_some_iff.mp hr
  refine tp_kP (rest := []) S hK hP hD rfl rfl (cC_isOn l D h a cI cZ _ σ x1 x2 q1 hq2) (cwV 2 hTB tp_gC_isOn rfl rfl rfl ⟨rfl, by decide, by decide, by decide +kernel⟩ ⟨Nat.le_of_ble_eq_true rfl, Nat.le_of_ble_eq_true rfl⟩) rfl hl.1 rfl (Nat.le_of_ble_eq_true rfl) dC_copyForRoom_3 ⟨Nat.zero_le _, Nat.zero_le _⟩ ?_
  refine lv_if_eq (tgt := 11) hx hb dC_copyForRoom_6 (by decide) (fun hc3 => ?_) (fun hc3 => ?_)
  · replace hr := (if_pos hc3).symm.trans hr
    refine lv_aload_n hx hb dC_copyForRoom_11 rfl (lv_at hl 0 rfl) ?_
    refine lv_aload_n hx hb dC_copyForRoom_12 rfl (lv_at hl 0 rfl) ?_
    refine tp_gtC S hK hP 4 (by decide) (v := .ref (a 4)) tp_mC_f4 rfl dC_copyForRoom_13 ?_
    refine lv_iload_n hx hb dC_copyForRoom_16 rfl (lv_at hl 1 rfl) ?_
    by_cases hb4 : tp_oob x1 400
    · exact nomatch ((if_pos hb4).symm.trans hr)
    replace hr := (if_neg hb4).symm.trans hr
    refine va_iald hx hb hK hP 5 0 rfl rfl hb4 dC_copyForRoom_17 ?_
    obtain ⟨q5, hq6, hr⟩ := Option.bind_eq_some_iff.mp hr
    refine tp_kP (rest := []) S hK hP hD rfl rfl (cC_stays l D h a cI cZ _ σ (σ 4 x1.toNatClampNeg) q5 hq6) (cwV 1 hTB tp_gC_stays rfl rfl rfl ⟨rfl, by decide, by decide, by decide +kernel⟩ ⟨Nat.le_of_ble_eq_true rfl, Nat.le_of_ble_eq_true rfl⟩) rfl hl.1 rfl (Nat.le_of_ble_eq_true rfl) dC_copyForRoom_18 ⟨Nat.zero_le _, Nat.zero_le _⟩ ?_
    refine lv_if_eq (tgt := 31) hx hb dC_copyForRoom_21 (by decide) (fun hc7 => ?_) (fun hc7 => ?_)
    · replace hr := (if_pos hc7).symm.trans hr
      refine lv_aload_n hx hb dC_copyForRoom_31 rfl (lv_at hl 0 rfl) ?_
      refine lv_aload_n hx hb dC_copyForRoom_32 rfl (lv_at hl 0 rfl) ?_
      refine tp_gtC S hK hP 5 (by decide) (v := .ref (a 5)) tp_mC_f5 rfl dC_copyForRoom_33 ?_
      refine lv_iload_n hx hb dC_copyForRoom_36 rfl (lv_at hl 1 rfl) ?_
      refine va_iald hx hb hK hP 6 0 rfl rfl hb4 dC_copyForRoom_37 ?_
      obtain ⟨q8, hq9, hr⟩ := Option.bind_eq_some_iff.mp hr
      refine tp_kP (rest := []) S hK hP hD rfl rfl (cC_stays l D h a cI cZ _ σ (σ 5 x1.toNatClampNeg) q8 hq9) (cwV 1 hTB tp_gC_stays rfl rfl rfl ⟨rfl, by decide, by decide, by decide +kernel⟩ ⟨Nat.le_of_ble_eq_true rfl, Nat.le_of_ble_eq_true rfl⟩) rfl hl.1 rfl (Nat.le_of_ble_eq_true rfl) dC_copyForRoom_38 ⟨Nat.zero_le _, Nat.zero_le _⟩ ?_
      refine lv_if_eq (tgt := 53) hx hb dC_copyForRoom_41 (by decide) (fun hc10 => ?_) (fun hc10 => ?_)
      · replace hr := (if_pos hc10).symm.trans hr
        refine lv_iconst (v := (-1)) hx hb dC_copyForRoom_53 (by decide) ?_
        obtain rfl := Option.some.inj hr
        exact W.iret (v := (-1)) hx hb hrt (fun t ht _ => ⟨rfl, ht⟩) (fun _ z => nomatch z) dC_copyForRoom_54 hlocks
      · replace hr := (if_neg hc10).symm.trans hr
        refine lv_aload_n hx hb dC_copyForRoom_44 rfl (lv_at hl 0 rfl) ?_
        refine tp_gtC S hK hP 5 (by decide) (v := .ref (a 5)) tp_mC_f5 rfl dC_copyForRoom_45 ?_
        refine lv_iload_n hx hb dC_copyForRoom_48 rfl (lv_at hl 1 rfl) ?_
        refine va_iald hx hb hK hP 6 0 rfl rfl hb4 dC_copyForRoom_49 ?_
        refine lv_goto (tgt := 54) hx hb dC_copyForRoom_50 (by decide) ?_
        obtain rfl := Option.some.inj hr
        exact W.iret (v := (σ 5 x1.toNatClampNeg)) hx hb hrt (fun t ht _ => ⟨rfl, ht⟩) (fun _ z => nomatch z) dC_copyForRoom_54 hlocks
    · replace hr := (if_neg hc7).symm.trans hr
      refine lv_aload_n hx hb dC_copyForRoom_24 rfl (lv_at hl 0 rfl) ?_
      refine tp_gtC S hK hP 4 (by decide) (v := .ref (a 4)) tp_mC_f4 rfl dC_copyForRoom_25 ?_
      refine lv_iload_n hx hb dC_copyForRoom_28 rfl (lv_at hl 1 rfl) ?_
      refine va_iald hx hb hK hP 5 0 rfl rfl hb4 dC_copyForRoom_29 ?_
      obtain rfl := Option.some.inj hr
      exact W.iret (v := (σ 4 x1.toNatClampNeg)) hx hb hrt (fun t ht _ => ⟨rfl, ht⟩) (fun _ z => nomatch z) dC_copyForRoom_30 hlocks
  · replace hr := (if_neg hc3).symm.trans hr
    refine lv_iconst (v := (-1)) hx hb dC_copyForRoom_9 (by decide) ?_
    obtain rfl := Option.some.inj hr
    exact W.iret (v := (-1)) hx hb hrt (fun t ht _ => ⟨rfl, ht⟩) (fun _ z => nomatch z) dC_copyForRoom_10 hlocks
set_option maxHeartbeats 4000000 in
set_option maxRecDepth 100000 in
theorem cC_otherThan (l : Launch) (D : va_G) (h : Nat) (a : Nat → Nat) (cI cZ : ClassId) (sz : Nat) (σ : tp_St) (x1 : Int32) (x2 : Int32) (r : Int32) (hr : fC_otherThan σ x1 x2 = some r) : Met l tp_yC_otherThan (tp_wsT tp_yC_otherThan tp_bC_otherThan 3 (some .int)) { frames := 0, cells := 0, slots := 0, locals := 0 } (tp_PcW D [(cI, .int), (cZ, .boolean)] (tp_wC h a cI cZ σ) sz [.ref h, .int x1, .int x2]) (tp_qI r) 0 0 tp_noF := by
  refine Met.ofW (cc := tp_bC_otherThan) (maxL := 3) (ret := (some .int)) (by decide) rfl ?_
  intro p e s m args below meth c s₁ B hml hv
  obtain ⟨rfl, hsz, hP, hK, hD0⟩ := hv
  have hx := B.exec
  have hb := B.bytes
  have hrt := B.returns
  have hTB : ∀ w ∈ tp_TB, w.before _ s = true := fun w z => atoms_spec (ws := (tp_wsT tp_yC_otherThan tp_bC_otherThan 3 (some .int))) B.pre w (List.mem_cons_of_mem _ z)
  have hown : s.vm.findClass tp_RC = some m.cls := findClass_of_methodNamed B.named
  have hlocks := B.notSynchronized
  have S : CallFix p m c tp_bC_otherThan 3 s _ tp_TB tp_RC := ⟨hx, hb, hml, hown, hTB⟩
  subst hsz
  have hD : va_D (va_A (tp_wC h a cI cZ σ) s.heap.size) (tp_wC h a cI cZ σ) := hD0.self
  have hl := lv_entry ([.ref h, .int x1, .int x2]) (n := 3) (Nat.le_of_ble_eq_true rfl)
  rw [lg_entry_eq]
  generalize (lg_sl ([.ref h, .int x1, .int x2]) ++ List.replicate (3 - (lg_sl ([.ref h, .int x1, .int x2])).length) Slot.unset).toArray = ls at hl ⊢
  have hl : lv_has ls 3 [(0, .ref h), (1, .int x1), (2, .int x2)] := hl
  rw [fC_otherThan] at hr
  refine lv_aload_n hx hb dC_otherThan_0 rfl (lv_at hl 0 rfl) ?_
  refine tp_gtC S hK hP 4 (by decide) (v := .ref (a 4)) tp_mC_f4 rfl dC_otherThan_1 ?_
  refine lv_iload_n hx hb dC_otherThan_4 rfl (lv_at hl 1 rfl) ?_
  by_cases hb1 : tp_oob x1 400
  · exact nomatch ((if_pos hb1).symm.trans hr)
  replace hr := (if_neg hb1).symm.trans hr
  refine va_iald hx hb hK hP 5 0 rfl rfl hb1 dC_otherThan_5 ?_
  refine lv_iload_n hx hb dC_otherThan_6 rfl (lv_at hl 2 rfl) ?_
  refine lv_icmp_ne (tgt := 19) hx hb dC_otherThan_7 (by decide) (fun hc2 => ?_) (fun hc2 => ?_)
  · replace hr := (if_neg hc2).symm.trans hr
    refine lv_aload_n hx hb dC_otherThan_19 rfl (lv_at hl 0 rfl) ?_
    refine tp_gtC S hK hP 4 (by decide) (v := .ref (a 4)) tp_mC_f4 rfl dC_otherThan_20 ?_
    refine lv_iload_n hx hb dC_otherThan_23 rfl (lv_at hl 1 rfl) ?_
    refine va_iald hx hb hK hP 5 0 rfl rfl hb1 dC_otherThan_24 ?_
    obtain rfl := Option.some.inj hr
    exact W.iret (v := (σ 4 x1.toNatClampNeg)) hx hb hrt (fun t ht _ => ⟨rfl, ht⟩) (fun _ z => nomatch z) dC_otherThan_25 hlocks
  · replace hr := (if_pos hc2).symm.trans hr
    refine lv_aload_n hx hb dC_otherThan_10 rfl (lv_at hl 0 rfl) ?_
    refine tp_gtC S hK hP 5 (by decide) (v := .ref (a 5)) tp_mC_f5 rfl dC_otherThan_11 ?_
    refine lv_iload_n hx hb dC_otherThan_14 rfl (lv_at hl 1 rfl) ?_
    refine va_iald hx hb hK hP 6 0 rfl rfl hb1 dC_otherThan_15 ?_
    refine lv_goto (tgt := 25) hx hb dC_otherThan_16 (by decide) ?_
    obtain rfl := Option.some.inj hr
    exact W.iret (v := (σ 5 x1.toNatClampNeg)) hx hb hrt (fun t ht _ => ⟨rfl, ht⟩) (fun _ z => nomatch z) dC_otherThan_25 hlocks
set_option maxHeartbeats 4000000 in
set_option maxRecDepth 100000 in
theorem cC_hasLeft (l : Launch) (D : va_G) (h : Nat) (a : Nat → Nat) (cI cZ : ClassId) (sz : Nat) (σ : tp_St) (x1 : Int32) (r : Int32) (hr : fC_hasLeft σ x1 = some r) : Met l tp_yC_hasLeft (tp_wsT tp_yC_hasLeft tp_bC_hasLeft 2 (some .boolean)) { frames := 0, cells := 0, slots := 0, locals := 0 } (tp_PcW D [(cI, .int), (cZ, .boolean)] (tp_wC h a cI cZ σ) sz [.ref h, .int x1]) (tp_qI r) 0 0 tp_noF := by
  refine Met.ofW (cc := tp_bC_hasLeft) (maxL := 2) (ret := (some .boolean)) (by decide) rfl ?_
  intro p e s m args below meth c s₁ B hml hv
  obtain ⟨rfl, hsz, hP, hK, hD0⟩ := hv
  have hx := B.exec
  have hb := B.bytes
  have hrt := B.returns
  have hTB : ∀ w ∈ tp_TB, w.before _ s = true := fun w z => atoms_spec (ws := (tp_wsT tp_yC_hasLeft tp_bC_hasLeft 2 (some .boolean))) B.pre w (List.mem_cons_of_mem _ z)
  have hown : s.vm.findClass tp_RC = some m.cls := findClass_of_methodNamed B.named
  have hlocks := B.notSynchronized
  have S : CallFix p m c tp_bC_hasLeft 2 s _ tp_TB tp_RC := ⟨hx, hb, hml, hown, hTB⟩
  subst hsz
  have hD : va_D (va_A (tp_wC h a cI cZ σ) s.heap.size) (tp_wC h a cI cZ σ) := hD0.self
  have hl := lv_entry ([.ref h, .int x1]) (n := 2) (Nat.le_of_ble_eq_true rfl)
  rw [lg_entry_eq]
  generalize (lg_sl ([.ref h, .int x1]) ++ List.replicate (2 - (lg_sl ([.ref h, .int x1])).length) Slot.unset).toArray = ls at hl ⊢
  have hl : lv_has ls 2 [(0, .ref h), (1, .int x1)] := hl
  rw [fC_hasLeft] at hr
  refine lv_aload_n hx hb dC_hasLeft_0 rfl (lv_at hl 0 rfl) ?_
  refine tp_gtC S hK hP 2 (by decide) (v := .ref (a 2)) tp_mC_f2 rfl dC_hasLeft_1 ?_
  refine lv_iload_n hx hb dC_hasLeft_4 rfl (lv_at hl 1 rfl) ?_
  by_cases hb1 : tp_oob x1 12
  · exact nomatch ((if_pos hb1).symm.trans hr)
  replace hr := (if_neg hb1).symm.trans hr
  refine va_zald hx hb hK hP 3 1 rfl rfl hb1 dC_hasLeft_5 ?_
  refine lv_if_eq (tgt := 22) hx hb dC_hasLeft_6 (by decide) (fun hc2 => ?_) (fun hc2 => ?_)
  · replace hr := (if_pos hc2).symm.trans hr
    refine lv_iconst (v := 0) hx hb dC_hasLeft_22 (by decide) ?_
    obtain rfl := Option.some.inj hr
    exact W.zret (v := 0) hx hb hrt (by decide) (fun t ht _ => ⟨rfl, ht⟩) (fun _ z => nomatch z) dC_hasLeft_23 hlocks
  · replace hr := (if_neg hc2).symm.trans hr
    refine lv_aload_n hx hb dC_hasLeft_9 rfl (lv_at hl 0 rfl) ?_
    refine tp_gtC S hK hP 1 (by decide) (v := .ref (a 1)) tp_mC_f1 rfl dC_hasLeft_10 ?_
    refine lv_iload_n hx hb dC_hasLeft_13 rfl (lv_at hl 1 rfl) ?_
    refine va_iald hx hb hK hP 2 0 rfl rfl hb1 dC_hasLeft_14 ?_
    refine lv_if_ne (tgt := 22) hx hb dC_hasLeft_15 (by decide) (fun hc3 => ?_) (fun hc3 => ?_)
    · replace hr := (if_neg hc3).symm.trans hr
      refine lv_iconst (v := 0) hx hb dC_hasLeft_22 (by decide) ?_
      obtain rfl := Option.some.inj hr
      exact W.zret (v := 0) hx hb hrt (by decide) (fun t ht _ => ⟨rfl, ht⟩) (fun _ z => nomatch z) dC_hasLeft_23 hlocks
    · replace hr := (if_pos hc3).symm.trans hr
      refine lv_iconst (v := 1) hx hb dC_hasLeft_18 (by decide) ?_
      refine lv_goto (tgt := 23) hx hb dC_hasLeft_19 (by decide) ?_
      obtain rfl := Option.some.inj hr
      exact W.zret (v := 1) hx hb hrt (by decide) (fun t ht _ => ⟨rfl, ht⟩) (fun _ z => nomatch z) dC_hasLeft_23 hlocks
