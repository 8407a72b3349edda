set_option maxHeartbeats 4000000 in
set_option maxRecDepth 100000 in
theorem cC_makeRoomToMend (l : Launch) (D : va_G) (h : Nat) (a : Nat → Nat) (cI cZ : ClassId) (sz : Nat) (σ : tp_St) (r : (Int32 × tp_St)) (hr : fC_makeRoomToMend σ = some r) : Met l tp_yC_makeRoomToMend (tp_wsT tp_yC_makeRoomToMend tp_bC_makeRoomToMend 2 (some .boolean)) { frames := 4, cells := 0, slots := 0, locals := 90 } (tp_PcW D [(cI, .int), (cZ, .boolean)] (tp_wC h a cI cZ σ) sz [.ref h]) (tp_qW (some (.int r.1)) D (tp_wC h a cI cZ r.2) (va_A (tp_wC h a cI cZ σ) sz)) 0 0 (va_A (tp_wC h a cI cZ σ) sz) := by
  refine Met.ofW (cc := tp_bC_makeRoomToMend) (maxL := 2) (ret := (some .boolean)) (by decide) rfl ?_
  intro p e s m args below meth c s₁ B hml hv
  obtain ⟨rfl, hsz, hP, hK, hD0⟩ := hv
  have hx := B.exec
  have hb := B.bytes
  have hrt := B.returns
  have hTB : ∀ w ∈ tp_TB, w.before _ s = true := fun w z => atoms_spec (ws := (tp_wsT tp_yC_makeRoomToMend tp_bC_makeRoomToMend 2 (some .boolean))) B.pre w (List.mem_cons_of_mem _ z)
  have hown : s.vm.findClass tp_RC = some m.cls := findClass_of_methodNamed B.named
  have hlocks := B.notSynchronized
  have S : CallFix p m c tp_bC_makeRoomToMend 2 s _ tp_TB tp_RC := ⟨hx, hb, hml, hown, hTB⟩
  subst hsz
  have hD : va_D (va_A (tp_wC h a cI cZ σ) s.heap.size) (tp_wC h a cI cZ σ) := hD0.self
  have hA : ∀ q : Nat, s.heap.size ≤ q → va_A (tp_wC h a cI cZ σ) s.heap.size q := fun q z => Or.inr z
  have hS : va_S (va_A (tp_wC h a cI cZ σ) s.heap.size) s.heap s.heap [] := va_S.rf
  have hl := lv_entry ([.ref h]) (n := 2) (Nat.le_of_ble_eq_true rfl)
  rw [lg_entry_eq]
  generalize (lg_sl ([.ref h]) ++ List.replicate (2 - (lg_sl ([.ref h])).length) Slot.unset).toArray = ls at hl ⊢
  have hl : lv_has ls 2 [(0, .ref h)] := hl
  rw [fC_makeRoomToMend] at hr
  refine lv_iconst (v := 0) hx hb dC_makeRoomToMend_0 (by decide) ?_
  refine lv_istore_n hx hb dC_makeRoomToMend_1 rfl hl (by decide) rfl (fun ls hl => ?_)
  have hl : lv_has ls 2 [(1, .int 0), (0, .ref h)] := hl
  have loop2 : ∀ (n2 : Nat) (x1 : Int32) (σ2 : tp_St) (H : Heap) (locs : List Loc) (ls : Array Slot), fC_makeRoomToMend_L2  n2 x1 σ2 = some r → lv_has ls 2 [(0, .ref h), (1, .int x1)] → va_P D tp_CL (tp_wC h a cI cZ σ2) H → va_D (va_A (tp_wC h a cI cZ σ) s.heap.size) (tp_wC h a cI cZ σ2) → va_S (va_A (tp_wC h a cI cZ σ) s.heap.size) s.heap H locs → W p l e { frames := 4, cells := 0, slots := 0, locals := 90 } s m (([.ref h] : List Value).toArray) below meth c H locs 0 0 (MQ below (tp_qW (some (.int r.1)) D (tp_wC h a cI cZ r.2) (va_A (tp_wC h a cI cZ σ) s.heap.size)) (([.ref h] : List Value).toArray) s 0 0 (va_A (tp_wC h a cI cZ σ) s.heap.size)) (F0 m 2 ls []) := by
    intro n2
    induction n2 with
    | zero => intro x1 σ2 H locs ls hr hl hP hD hS; exact nomatch (show (none : Option (Int32 × tp_St)) = some r from hr)
    | succ n2 ih2 =>
      intro x1 σ2 H locs ls hr hl hP hD hS
      rw [fC_makeRoomToMend_L2] at hr
      refine lv_iload_n hx hb dC_makeRoomToMend_2 rfl (lv_at hl 1 rfl) ?_
      refine lv_sipush (v := 400) hx hb dC_makeRoomToMend_3 (by decide) ?_
      refine lv_icmp_ge (tgt := 56) hx hb dC_makeRoomToMend_6 (by decide) (fun hc1 => ?_) (fun hc1 => ?_)
      · replace hr := (if_pos hc1).symm.trans hr
        refine lv_iconst (v := 0) hx hb dC_makeRoomToMend_56 (by decide) ?_
        obtain rfl := Option.some.inj hr
        exact W.zret (v := 0) hx hb hrt (by decide) (fun t ht _ => ⟨rfl, by rw [ht]; exact hP, hS.F ht⟩) hS.2.2 dC_makeRoomToMend_57 hlocks
      · replace hr := (if_neg hc1).symm.trans hr
        refine lv_aload_n hx hb dC_makeRoomToMend_9 rfl (lv_at hl 0 rfl) ?_
        refine lv_iload_n hx hb dC_makeRoomToMend_10 rfl (lv_at hl 1 rfl) ?_
        obtain ⟨q2, hq3, hr⟩ := Option.bind_eq_some_iff.mp hr
        refine tp_kP (rest := []) S hK hP hD rfl rfl (cC_isDegraded l D h a cI cZ _ σ2 x1 q2 hq3) (cwV 1 hTB tp_gC_isDegraded rfl rfl rfl ⟨rfl, by decide, by decide, by decide +kernel⟩ ⟨Nat.le_of_ble_eq_true rfl, Nat.le_of_ble_eq_true rfl⟩) rfl hl.1 rfl (Nat.le_of_ble_eq_true rfl) dC_makeRoomToMend_11 ⟨Nat.zero_le _, Nat.zero_le _⟩ ?_
        refine lv_if_eq (tgt := 50) hx hb dC_makeRoomToMend_14 (by decide) (fun hc4 => ?_) (fun hc4 => ?_)
        · replace hr := (if_pos hc4).symm.trans hr
          refine lv_iinc (k := 1) (v := (x1 + 1)) hx hb dC_makeRoomToMend_50 hl rfl (tp_ii1 _) (by decide) rfl (fun ls hl => ?_)
          have hl : lv_has ls 2 [(1, .int (x1 + 1)), (0, .ref h)] := hl
          refine lv_goto (tgt := 2) hx hb dC_makeRoomToMend_53 (by decide) ?_
          exact ih2 (x1 + 1) σ2 H locs ls hr (lv_sub hl [1, 0] rfl) hP hD hS
        · replace hr := (if_neg hc4).symm.trans hr
          refine lv_aload_n hx hb dC_makeRoomToMend_17 rfl (lv_at hl 0 rfl) ?_
          refine lv_aload_n hx hb dC_makeRoomToMend_18 rfl (lv_at hl 0 rfl) ?_
          refine tp_gtC S hK hP 4 (by decide) (v := .ref (a 4)) tp_mC_f4 rfl dC_makeRoomToMend_19 ?_
          refine lv_iload_n hx hb dC_makeRoomToMend_22 rfl (lv_at hl 1 rfl) ?_
          by_cases hb5 : tp_oob x1 400
          · exact nomatch ((if_pos hb5).symm.trans hr)
          replace hr := (if_neg hb5).symm.trans hr
          refine va_iald hx hb hK hP 5 0 rfl rfl hb5 dC_makeRoomToMend_23 ?_
          obtain ⟨q6, hq7, hr⟩ := Option.bind_eq_some_iff.mp hr
          refine tp_kP (rest := []) S hK hP hD rfl rfl (cC_staysWithRoom l D h a cI cZ _ σ2 (σ2 4 x1.toNatClampNeg) q6 hq7) (cwV 1 hTB tp_gC_staysWithRoom rfl rfl rfl ⟨rfl, by decide, by decide, by decide +kernel⟩ ⟨Nat.le_of_ble_eq_true rfl, Nat.le_of_ble_eq_true rfl⟩) rfl hl.1 rfl (Nat.le_of_ble_eq_true rfl) dC_makeRoomToMend_24 ⟨Nat.zero_le _, Nat.zero_le _⟩ ?_
          refine lv_if_eq (tgt := 50) hx hb dC_makeRoomToMend_27 (by decide) (fun hc8 => ?_) (fun hc8 => ?_)
          · replace hr := (if_pos hc8).symm.trans hr
            refine lv_iinc (k := 1) (v := (x1 + 1)) hx hb dC_makeRoomToMend_50 hl rfl (tp_ii1 _) (by decide) rfl (fun ls hl => ?_)
            have hl : lv_has ls 2 [(1, .int (x1 + 1)), (0, .ref h)] := hl
            refine lv_goto (tgt := 2) hx hb dC_makeRoomToMend_53 (by decide) ?_
            exact ih2 (x1 + 1) σ2 H locs ls hr (lv_sub hl [1, 0] rfl) hP hD hS
          · replace hr := (if_neg hc8).symm.trans hr
            refine lv_aload_n hx hb dC_makeRoomToMend_30 rfl (lv_at hl 0 rfl) ?_
            refine lv_aload_n hx hb dC_makeRoomToMend_31 rfl (lv_at hl 0 rfl) ?_
            refine tp_gtC S hK hP 4 (by decide) (v := .ref (a 4)) tp_mC_f4 rfl dC_makeRoomToMend_32 ?_
            refine lv_iload_n hx hb dC_makeRoomToMend_35 rfl (lv_at hl 1 rfl) ?_
            refine va_iald hx hb hK hP 5 0 rfl rfl hb5 dC_makeRoomToMend_36 ?_
            obtain ⟨q9, hq10, hr⟩ := Option.bind_eq_some_iff.mp hr
            refine tp_kV (rest := []) S hK hP hD hS hA rfl rfl (cC_makeRoomBeside l D h a cI cZ _ σ2 (σ2 4 x1.toNatClampNeg) q9 hq10) (cwV 1 hTB tp_gC_makeRoomBeside rfl rfl rfl ⟨rfl, by decide, by decide, by decide +kernel⟩ ⟨Nat.le_of_ble_eq_true rfl, Nat.le_of_ble_eq_true rfl⟩) rfl hl.1 rfl (Nat.le_of_ble_eq_true rfl) dC_makeRoomToMend_37 ⟨Nat.zero_le _, Nat.zero_le _⟩ (fun H locs hP hS => ?_)
            have hP : va_P D tp_CL (tp_wC h a cI cZ q9.2) H := hP
            have hD : va_D (va_A (tp_wC h a cI cZ σ) s.heap.size) (tp_wC h a cI cZ q9.2) := tp_dre hD tp_wC_fst
            refine lv_iconst (v := (-1)) hx hb dC_makeRoomToMend_40 (by decide) ?_
            refine lv_icmp_eq (tgt := 48) hx hb dC_makeRoomToMend_41 (by decide) (fun hc11 => ?_) (fun hc11 => ?_)
            · replace hr := (if_pos hc11).symm.trans hr
              refine lv_iconst (v := 0) hx hb dC_makeRoomToMend_48 (by decide) ?_
              obtain rfl := Option.some.inj hr
              exact W.zret (v := 0) hx hb hrt (by decide) (fun t ht _ => ⟨rfl, by rw [ht]; exact hP, hS.F ht⟩) hS.2.2 dC_makeRoomToMend_49 hlocks
            · replace hr := (if_neg hc11).symm.trans hr
              refine lv_iconst (v := 1) hx hb dC_makeRoomToMend_44 (by decide) ?_
              refine lv_goto (tgt := 49) hx hb dC_makeRoomToMend_45 (by decide) ?_
              obtain rfl := Option.some.inj hr
              exact W.zret (v := 1) hx hb hrt (by decide) (fun t ht _ => ⟨rfl, by rw [ht]; exact hP, hS.F ht⟩) hS.2.2 dC_makeRoomToMend_49 hlocks
  exact loop2 401 0 σ _ _ ls hr (lv_sub hl [1, 0] rfl) hP hD hS
set_option maxHeartbeats 4000000 in
set_option maxRecDepth 100000 in
theorem cC_moveOneOffDisk (l : Launch) (D : va_G) (h : Nat) (a : Nat → Nat) (cI cZ : ClassId) (sz : Nat) (σ : tp_St) (x1 : Int32) (r : (Int32 × tp_St)) (hr : fC_moveOneOffDisk σ x1 = some r) : Met l tp_yC_moveOneOffDisk (tp_wsT tp_yC_moveOneOffDisk tp_bC_moveOneOffDisk 4 (some .boolean)) { frames := 3, cells := 0, slots := 0, locals := 67 } (tp_PcW D [(cI, .int), (cZ, .boolean)] (tp_wC h a cI cZ σ) sz [.ref h, .int x1]) (tp_qW (some (.int r.1)) D (tp_wC h a cI cZ r.2) (va_A (tp_wC h a cI cZ σ) sz)) 0 0 (va_A (tp_wC h a cI cZ σ) sz) := by
  refine Met.ofW (cc := tp_bC_moveOneOffDisk) (maxL := 4) (ret := (some .boolean)) (by decide) rfl ?_
  intro p e s m args below meth c s₁ B hml hv
  obtain ⟨rfl, hsz, hP, hK, hD0⟩ := hv
  have hx := B.exec
  have hb := B.bytes
  have hrt := B.returns
  have hTB : ∀ w ∈ tp_TB, w.before _ s = true := fun w z => atoms_spec (ws := (tp_wsT tp_yC_moveOneOffDisk tp_bC_moveOneOffDisk 4 (some .boolean))) B.pre w (List.mem_cons_of_mem _ z)
  have hown : s.vm.findClass tp_RC = some m.cls := findClass_of_methodNamed B.named
  have hlocks := B.notSynchronized
  have S : CallFix p m c tp_bC_moveOneOffDisk 4 s _ tp_TB tp_RC := ⟨hx, hb, hml, hown, hTB⟩
  subst hsz
  have hD : va_D (va_A (tp_wC h a cI cZ σ) s.heap.size) (tp_wC h a cI cZ σ) := hD0.self
  have hA : ∀ q : Nat, s.heap.size ≤ q → va_A (tp_wC h a cI cZ σ) s.heap.size q := fun q z => Or.inr z
  have hS : va_S (va_A (tp_wC h a cI cZ σ) s.heap.size) s.heap s.heap [] := va_S.rf
  have hl := lv_entry ([.ref h, .int x1]) (n := 4) (Nat.le_of_ble_eq_true rfl)
  rw [lg_entry_eq]
  generalize (lg_sl ([.ref h, .int x1]) ++ List.replicate (4 - (lg_sl ([.ref h, .int x1])).length) Slot.unset).toArray = ls at hl ⊢
  have hl : lv_has ls 4 [(0, .ref h), (1, .int x1)] := hl
  rw [fC_moveOneOffDisk] at hr
  refine lv_iconst (v := 0) hx hb dC_moveOneOffDisk_0 (by decide) ?_
  refine lv_istore_n hx hb dC_moveOneOffDisk_1 rfl hl (by decide) rfl (fun ls hl => ?_)
  have hl : lv_has ls 4 [(2, .int 0), (0, .ref h), (1, .int x1)] := hl
  have loop2 : ∀ (n2 : Nat) (x2 : Int32) (σ2 : tp_St) (H : Heap) (locs : List Loc) (ls : Array Slot), fC_moveOneOffDisk_L2 x1 n2 x2 σ2 = some r → lv_has ls 4 [(0, .ref h), (1, .int x1), (2, .int x2)] → va_P D tp_CL (tp_wC h a cI cZ σ2) H → va_D (va_A (tp_wC h a cI cZ σ) s.heap.size) (tp_wC h a cI cZ σ2) → va_S (va_A (tp_wC h a cI cZ σ) s.heap.size) s.heap H locs → W p l e { frames := 3, cells := 0, slots := 0, locals := 67 } s m (([.ref h, .int x1] : List Value).toArray) below meth c H locs 0 0 (MQ below (tp_qW (some (.int r.1)) D (tp_wC h a cI cZ r.2) (va_A (tp_wC h a cI cZ σ) s.heap.size)) (([.ref h, .int x1] : List Value).toArray) s 0 0 (va_A (tp_wC h a cI cZ σ) s.heap.size)) (F0 m 2 ls []) := by
    intro n2
    induction n2 with
    | zero => intro x2 σ2 H locs ls hr hl hP hD hS; exact nomatch (show (none : Option (Int32 × tp_St)) = some r from hr)
    | succ n2 ih2 =>
      intro x2 σ2 H locs ls hr hl hP hD hS
      rw [fC_moveOneOffDisk_L2] at hr
      refine lv_iload_n hx hb dC_moveOneOffDisk_2 rfl (lv_at hl 2 rfl) ?_
      refine lv_sipush (v := 400) hx hb dC_moveOneOffDisk_3 (by decide) ?_
      refine lv_icmp_ge (tgt := 53) hx hb dC_moveOneOffDisk_6 (by decide) (fun hc1 => ?_) (fun hc1 => ?_)
      · replace hr := (if_pos hc1).symm.trans hr
        refine lv_iconst (v := 0) hx hb dC_moveOneOffDisk_53 (by decide) ?_
        obtain rfl := Option.some.inj hr
        exact W.zret (v := 0) hx hb hrt (by decide) (fun t ht _ => ⟨rfl, by rw [ht]; exact hP, hS.F ht⟩) hS.2.2 dC_moveOneOffDisk_54 hlocks
      · replace hr := (if_neg hc1).symm.trans hr
        refine lv_aload_n hx hb dC_moveOneOffDisk_9 rfl (lv_at hl 0 rfl) ?_
        refine lv_iload_n hx hb dC_moveOneOffDisk_10 rfl (lv_at hl 2 rfl) ?_
        refine lv_iload_n hx hb dC_moveOneOffDisk_11 rfl (lv_at hl 1 rfl) ?_
        obtain ⟨q2, hq3, hr⟩ := Option.bind_eq_some_iff.mp hr
        refine tp_kP (rest := []) S hK hP hD rfl rfl (cC_isOn l D h a cI cZ _ σ2 x2 x1 q2 hq3) (cwV 2 hTB tp_gC_isOn rfl rfl rfl ⟨rfl, by decide, by decide, by decide +kernel⟩ ⟨Nat.le_of_ble_eq_true rfl, Nat.le_of_ble_eq_true rfl⟩) rfl hl.1 rfl (Nat.le_of_ble_eq_true rfl) dC_moveOneOffDisk_12 ⟨Nat.zero_le _, Nat.zero_le _⟩ ?_
        refine lv_if_eq (tgt := 31) hx hb dC_moveOneOffDisk_15 (by decide) (fun hc4 => ?_) (fun hc4 => ?_)
        · replace hr := (if_pos hc4).symm.trans hr
          refine lv_iconst (v := (-1)) hx hb dC_moveOneOffDisk_31 (by decide) ?_
          refine lv_istore_n hx hb dC_moveOneOffDisk_32 rfl hl (by decide) rfl (fun ls hl => ?_)
          have hl : lv_has ls 4 [(3, .int (-1)), (0, .ref h), (1, .int x1), (2, .int x2)] := hl
          refine lv_iload_n hx hb dC_moveOneOffDisk_33 rfl (lv_at hl 0 rfl) ?_
          refine lv_iconst (v := (-1)) hx hb dC_moveOneOffDisk_34 (by decide) ?_
          refine lv_icmp_eq (tgt := 47) hx hb dC_moveOneOffDisk_35 (by decide) (fun _ => ?_) (fun z => absurd (by decide) z)
          refine lv_iinc (k := 3) (v := (x2 + 1)) hx hb dC_moveOneOffDisk_47 hl rfl (tp_ii1 _) (by decide) rfl (fun ls hl => ?_)
          have hl : lv_has ls 4 [(2, .int (x2 + 1)), (3, .int (-1)), (0, .ref h), (1, .int x1)] := hl
          refine lv_goto (tgt := 2) hx hb dC_moveOneOffDisk_50 (by decide) ?_
          exact ih2 (x2 + 1) σ2 H locs ls hr (lv_sub hl [2, 3, 0] rfl) hP hD hS
        · replace hr := (if_neg hc4).symm.trans hr
          refine lv_aload_n hx hb dC_moveOneOffDisk_18 rfl (lv_at hl 0 rfl) ?_
          refine lv_aload_n hx hb dC_moveOneOffDisk_19 rfl (lv_at hl 0 rfl) ?_
          refine lv_iload_n hx hb dC_moveOneOffDisk_20 rfl (lv_at hl 2 rfl) ?_
          refine lv_iload_n hx hb dC_moveOneOffDisk_21 rfl (lv_at hl 1 rfl) ?_
          obtain ⟨q5, hq6, hr⟩ := Option.bind_eq_some_iff.mp hr
          refine tp_kP (rest := [.ref h]) S hK hP hD rfl rfl (cC_otherThan l D h a cI cZ _ σ2 x2 x1 q5 hq6) (cwV 2 hTB tp_gC_otherThan rfl rfl rfl ⟨rfl, by decide, by decide, by decide +kernel⟩ ⟨Nat.le_of_ble_eq_true rfl, Nat.le_of_ble_eq_true rfl⟩) rfl hl.1 rfl (Nat.le_of_ble_eq_true rfl) dC_moveOneOffDisk_22 ⟨Nat.zero_le _, Nat.zero_le _⟩ ?_
          obtain ⟨q7, hq8, hr⟩ := Option.bind_eq_some_iff.mp hr
          refine tp_kP (rest := []) S hK hP hD rfl rfl (cC_emptiestBut l D h a cI cZ _ σ2 q5 q7 hq8) (cwV 1 hTB tp_gC_emptiestBut rfl rfl rfl ⟨rfl, by decide, by decide, by decide +kernel⟩ ⟨Nat.le_of_ble_eq_true rfl, Nat.le_of_ble_eq_true rfl⟩) rfl hl.1 rfl (Nat.le_of_ble_eq_true rfl) dC_moveOneOffDisk_25 ⟨Nat.zero_le _, Nat.zero_le _⟩ ?_
          refine lv_goto (tgt := 32) hx hb dC_moveOneOffDisk_28 (by decide) ?_
          refine lv_istore_n hx hb dC_moveOneOffDisk_32 rfl hl (by decide) rfl (fun ls hl => ?_)
          have hl : lv_has ls 4 [(3, .int q7), (0, .ref h), (1, .int x1), (2, .int x2)] := hl
          refine lv_iload_n hx hb dC_moveOneOffDisk_33 rfl (lv_at hl 0 rfl) ?_
          refine lv_iconst (v := (-1)) hx hb dC_moveOneOffDisk_34 (by decide) ?_
          refine lv_icmp_eq (tgt := 47) hx hb dC_moveOneOffDisk_35 (by decide) (fun hc9 => ?_) (fun hc9 => ?_)
          · replace hr := (if_pos hc9).symm.trans hr
            refine lv_iinc (k := 3) (v := (x2 + 1)) hx hb dC_moveOneOffDisk_47 hl rfl (tp_ii1 _) (by decide) rfl (fun ls hl => ?_)
            have hl : lv_has ls 4 [(2, .int (x2 + 1)), (3, .int q7), (0, .ref h), (1, .int x1)] := hl
            refine lv_goto (tgt := 2) hx hb dC_moveOneOffDisk_50 (by decide) ?_
            exact ih2 (x2 + 1) σ2 H locs ls hr (lv_sub hl [2, 3, 0] rfl) hP hD hS
          · replace hr := (if_neg hc9).symm.trans hr
            refine lv_aload_n hx hb dC_moveOneOffDisk_38 rfl (lv_at hl 1 rfl) ?_
            refine lv_iload_n hx hb dC_moveOneOffDisk_39 rfl (lv_at hl 3 rfl) ?_
            refine lv_iload_n hx hb dC_moveOneOffDisk_40 rfl (lv_at hl 2 rfl) ?_
            refine lv_iload_n hx hb dC_moveOneOffDisk_41 rfl (lv_at hl 0 rfl) ?_
            obtain ⟨q10, hq11, hr⟩ := Option.bind_eq_some_iff.mp hr
            refine tp_kV (rest := []) S hK hP hD hS hA rfl rfl (cC_moveCopy l D h a cI cZ _ σ2 x2 x1 q7 q10 hq11) (cwV 3 hTB tp_gC_moveCopy rfl rfl rfl ⟨rfl, by decide, by decide, by decide +kernel⟩ ⟨Nat.le_of_ble_eq_true rfl, Nat.le_of_ble_eq_true rfl⟩) rfl hl.1 rfl (Nat.le_of_ble_eq_true rfl) dC_moveOneOffDisk_42 ⟨Nat.zero_le _, Nat.zero_le _⟩ (fun H locs hP hS => ?_)
            have hP : va_P D tp_CL (tp_wC h a cI cZ q10) H := hP
            have hD : va_D (va_A (tp_wC h a cI cZ σ) s.heap.size) (tp_wC h a cI cZ q10) := tp_dre hD tp_wC_fst
            refine lv_iconst (v := 1) hx hb dC_moveOneOffDisk_45 (by decide) ?_
            obtain rfl := Option.some.inj hr
            exact W.zret (v := 1) hx hb hrt (by decide) (fun t ht _ => ⟨rfl, by rw [ht]; exact hP, hS.F ht⟩) hS.2.2 dC_moveOneOffDisk_46 hlocks
  exact loop2 401 0 σ _ _ ls hr (lv_sub hl [1, 2, 0] rfl) hP hD hS
set_option maxHeartbeats 4000000 in
set_option maxRecDepth 100000 in
theorem cC_moveOneOff (l : Launch) (D : va_G) (h : Nat) (a : Nat → Nat) (cI cZ : ClassId) (sz : Nat) (σ : tp_St) (r : (Int32 × tp_St)) (hr : fC_moveOneOff σ = some r) : Met l tp_yC_moveOneOff (tp_wsT tp_yC_moveOneOff tp_bC_moveOneOff 2 (some .boolean)) { frames := 4, cells := 0, slots := 0, locals := 90 } (tp_PcW D [(cI, .int), (cZ, .boolean)] (tp_wC h a cI cZ σ) sz [.ref h]) (tp_qW (some (.int r.1)) D (tp_wC h a cI cZ r.2) (va_A (tp_wC h a cI cZ σ) sz)) 0 0 (va_A (tp_wC h a cI cZ σ) sz) := by
  refine Met.ofW (cc := tp_bC_moveOneOff) (maxL := 2) (ret := (some .boolean)) (by decide) rfl ?_
  intro p e s m args below meth c s₁ B hml hv
  obtain ⟨rfl, hsz, hP, hK, hD0⟩ := hv
  have hx := B.exec
  have hb := B.bytes
  have hrt := B.returns
  have hTB : ∀ w ∈ tp_TB, w.before _ s = true := fun w z => atoms_spec (ws := (tp_wsT tp_yC_moveOneOff tp_bC_moveOneOff 2 (some .boolean))) B.pre w (List.mem_cons_of_mem _ z)
  have hown : s.vm.findClass tp_RC = some m.cls := findClass_of_methodNamed B.named
  have hlocks := B.notSynchronized
  have S : CallFix p m c tp_bC_moveOneOff 2 s _ tp_TB tp_RC := ⟨hx, hb, hml, hown, hTB⟩
  subst hsz
  have hD : va_D (va_A (tp_wC h a cI cZ σ) s.heap.size) (tp_wC h a cI cZ σ) := hD0.self
  have hA : ∀ q : Nat, s.heap.size ≤ q → va_A (tp_wC h a cI cZ σ) s.heap.size q := fun q z => Or.inr z
  have hS : va_S (va_A (tp_wC h a cI cZ σ) s.heap.size) s.heap s.heap [] := va_S.rf
  have hl := lv_entry ([.ref h]) (n := 2) (Nat.le_of_ble_eq_true rfl)
  rw [lg_entry_eq]
  generalize (lg_sl ([.ref h]) ++ List.replicate (2 - (lg_sl ([.ref h])).length) Slot.unset).toArray = ls at hl ⊢
  have hl : lv_has ls 2 [(0, .ref h)] := hl
  rw [fC_moveOneOff] at hr
  refine lv_iconst (v := 0) hx hb dC_moveOneOff_0 (by decide) ?_
  refine lv_istore_n hx hb dC_moveOneOff_1 rfl hl (by decide) rfl (fun ls hl => ?_)
  have hl : lv_has ls 2 [(1, .int 0), (0, .ref h)] := hl
  have loop2 : ∀ (n2 : Nat) (x1 : Int32) (σ2 : tp_St) (H : Heap) (locs : List Loc) (ls : Array Slot), fC_moveOneOff_L2  n2 x1 σ2 = some r → lv_has ls 2 [(0, .ref h), (1, .int x1)] → va_P D tp_CL (tp_wC h a cI cZ σ2) H → va_D (va_A (tp_wC h a cI cZ σ) s.heap.size) (tp_wC h a cI cZ σ2) → va_S (va_A (tp_wC h a cI cZ σ) s.heap.size) s.heap H locs → W p l e { frames := 4, cells := 0, slots := 0, locals := 90 } s m (([.ref h] : List Value).toArray) below meth c H locs 0 0 (MQ below (tp_qW (some (.int r.1)) D (tp_wC h a cI cZ r.2) (va_A (tp_wC h a cI cZ σ) s.heap.size)) (([.ref h] : List Value).toArray) s 0 0 (va_A (tp_wC h a cI cZ σ) s.heap.size)) (F0 m 2 ls []) := by
    intro n2
    induction n2 with
    | zero => intro x1 σ2 H locs ls hr hl hP hD hS; exact nomatch (show (none : Option (Int32 × tp_St)) = some r from hr)
    | succ n2 ih2 =>
      intro x1 σ2 H locs ls hr hl hP hD hS
      rw [fC_moveOneOff_L2] at hr
      refine lv_iload_n hx hb dC_moveOneOff_2 rfl (lv_at hl 1 rfl) ?_
      refine lv_bipush (v := 12) hx hb dC_moveOneOff_3 (by decide) ?_
      refine lv_icmp_ge (tgt := 33) hx hb dC_moveOneOff_5 (by decide) (fun hc1 => ?_) (fun hc1 => ?_)
      · replace hr := (if_pos hc1).symm.trans hr
        refine lv_iconst (v := 0) hx hb dC_moveOneOff_33 (by decide) ?_
        obtain rfl := Option.some.inj hr
        exact W.zret (v := 0) hx hb hrt (by decide) (fun t ht _ => ⟨rfl, by rw [ht]; exact hP, hS.F ht⟩) hS.2.2 dC_moveOneOff_34 hlocks
      · replace hr := (if_neg hc1).symm.trans hr
        refine lv_aload_n hx hb dC_moveOneOff_8 rfl (lv_at hl 0 rfl) ?_
        refine tp_gtC S hK hP 2 (by decide) (v := .ref (a 2)) tp_mC_f2 rfl dC_moveOneOff_9 ?_
        refine lv_iload_n hx hb dC_moveOneOff_12 rfl (lv_at hl 1 rfl) ?_
        by_cases hb2 : tp_oob x1 12
        · exact nomatch ((if_pos hb2).symm.trans hr)
        replace hr := (if_neg hb2).symm.trans hr
        refine va_zald hx hb hK hP 3 1 rfl rfl hb2 dC_moveOneOff_13 ?_
        refine lv_if_eq (tgt := 27) hx hb dC_moveOneOff_14 (by decide) (fun hc3 => ?_) (fun hc3 => ?_)
        · replace hr := (if_pos hc3).symm.trans hr
          refine lv_iinc (k := 1) (v := (x1 + 1)) hx hb dC_moveOneOff_27 hl rfl (tp_ii1 _) (by decide) rfl (fun ls hl => ?_)
          have hl : lv_has ls 2 [(1, .int (x1 + 1)), (0, .ref h)] := hl
          refine lv_goto (tgt := 2) hx hb dC_moveOneOff_30 (by decide) ?_
          exact ih2 (x1 + 1) σ2 H locs ls hr (lv_sub hl [1, 0] rfl) hP hD hS
        · replace hr := (if_neg hc3).symm.trans hr
          refine lv_aload_n hx hb dC_moveOneOff_17 rfl (lv_at hl 0 rfl) ?_
          refine lv_iload_n hx hb dC_moveOneOff_18 rfl (lv_at hl 1 rfl) ?_
          obtain ⟨q4, hq5, hr⟩ := Option.bind_eq_some_iff.mp hr
          refine tp_kV (rest := []) S hK hP hD hS hA rfl rfl (cC_moveOneOffDisk l D h a cI cZ _ σ2 x1 q4 hq5) (cwV 1 hTB tp_gC_moveOneOffDisk rfl rfl rfl ⟨rfl, by decide, by decide, by decide +kernel⟩ ⟨Nat.le_of_ble_eq_true rfl, Nat.le_of_ble_eq_true rfl⟩) rfl hl.1 rfl (Nat.le_of_ble_eq_true rfl) dC_moveOneOff_19 ⟨Nat.zero_le _, Nat.zero_le _⟩ (fun H locs hP hS => ?_)
          have hP : va_P D tp_CL (tp_wC h a cI cZ q4.2) H := hP
          have hD : va_D (va_A (tp_wC h a cI cZ σ) s.heap.size) (tp_wC h a cI cZ q4.2) := tp_dre hD tp_wC_fst
          refine lv_if_eq (tgt := 27) hx hb dC_moveOneOff_22 (by decide) (fun hc6 => ?_) (fun hc6 => ?_)
          · replace hr := (if_pos hc6).symm.trans hr
            refine lv_iinc (k := 1) (v := (x1 + 1)) hx hb dC_moveOneOff_27 hl rfl (tp_ii1 _) (by decide) rfl (fun ls hl => ?_)
            have hl : lv_has ls 2 [(1, .int (x1 + 1)), (0, .ref h)] := hl
            refine lv_goto (tgt := 2) hx hb dC_moveOneOff_30 (by decide) ?_
            exact ih2 (x1 + 1) q4.2 H locs ls hr (lv_sub hl [1, 0] rfl) hP hD hS
          · replace hr := (if_neg hc6).symm.trans hr
            refine lv_iconst (v := 1) hx hb dC_moveOneOff_25 (by decide) ?_
            obtain rfl := Option.some.inj hr
            exact W.zret (v := 1) hx hb hrt (by decide) (fun t ht _ => ⟨rfl, by rw [ht]; exact hP, hS.F ht⟩) hS.2.2 dC_moveOneOff_26 hlocks
  exact loop2 13 0 σ _ _ ls hr (lv_sub hl [1, 0] rfl) hP hD hS
set_option maxHeartbeats 4000000 in
set_option maxRecDepth 100000 in
theorem cC_otherDiskWithRoom (l : Launch) (D : va_G) (h : Nat) (a : Nat → Nat) (cI cZ : ClassId) (sz : Nat) (σ : tp_St) (x1 : Int32) (r : Int32) (hr : fC_otherDiskWithRoom σ x1 = some r) : Met l tp_yC_otherDiskWithRoom (tp_wsT tp_yC_otherDiskWithRoom tp_bC_otherDiskWithRoom 3 (some .int)) { frames := 3, cells := 0, slots := 0, locals := 63 } (tp_PcW D [(cI, .int), (cZ, .boolean)] (tp_wC h a cI cZ σ) sz [.ref h, .int x1]) (tp_qI r) 0 0 tp_noF := by
  refine Met.ofW (cc := tp_bC_otherDiskWithRoom) (maxL := 3) (ret := (some .int)) (by decide) rfl ?_
  intro p e s m args below meth c s₁ B hml hv
  obtain ⟨rfl, hsz, hP, hK, hD0⟩ := hv
  have hx := B.exec
  have hb := B.bytes
  have hrt := B.returns
  have hTB : ∀ w ∈ tp_TB, w.before _ s = true := fun w z => atoms_spec (ws := (tp_wsT tp_yC_otherDiskWithRoom tp_bC_otherDiskWithRoom 3 (some .int))) B.pre w (List.mem_cons_of_mem _ z)
  have hown : s.vm.findClass tp_RC = some m.cls := findClass_of_methodNamed B.named
  have hlocks := B.notSynchronized
  have S : CallFix p m c tp_bC_otherDiskWithRoom 3 s _ tp_TB tp_RC := ⟨hx, hb, hml, hown, hTB⟩
  subst hsz
  have hD : va_D (va_A (tp_wC h a cI cZ σ) s.heap.size) (tp_wC h a cI cZ σ) := hD0.self
  have hl := lv_entry ([.ref h, .int x1]) (n := 3) (Nat.le_of_ble_eq_true rfl)
  rw [lg_entry_eq]
  generalize (lg_sl ([.ref h, .int x1]) ++ List.replicate (3 - (lg_sl ([.ref h, .int x1])).length) Slot.unset).toArray = ls at hl ⊢
  have hl : lv_has ls 3 [(0, .ref h), (1, .int x1)] := hl
  rw [fC_otherDiskWithRoom] at hr
  refine lv_iconst (v := 0) hx hb dC_otherDiskWithRoom_0 (by decide) ?_
  refine lv_istore_n hx hb dC_otherDiskWithRoom_1 rfl hl (by decide) rfl (fun ls hl => ?_)
  have hl : lv_has ls 3 [(2, .int 0), (0, .ref h), (1, .int x1)] := hl
  have loop2 : ∀ (n2 : Nat) (x2 : Int32) (ls : Array Slot), fC_otherDiskWithRoom_L2 σ x1 n2 x2 = some r → lv_has ls 3 [(0, .ref h), (1, .int x1), (2, .int x2)] → W p l e { frames := 3, cells := 0, slots := 0, locals := 63 } s m (([.ref h, .int x1] : List Value).toArray) below meth c s.heap [] 0 0 (MQ below (tp_qI r) (([.ref h, .int x1] : List Value).toArray) s 0 0 tp_noF) (F0 m 2 ls []) := by
    intro n2
    induction n2 with
    | zero => intro x2 ls hr hl; exact nomatch (show (none : Option Int32) = some r from hr)
    | succ n2 ih2 =>
      intro x2 ls hr hl
      rw [fC_otherDiskWithRoom_L2] at hr
      refine lv_iload_n hx hb dC_otherDiskWithRoom_2 rfl (lv_at hl 2 rfl) ?_
      refine lv_sipush (v := 400) hx hb dC_otherDiskWithRoom_3 (by decide) ?_
      refine lv_icmp_ge (tgt := 44) hx hb dC_otherDiskWithRoom_6 (by decide) (fun hc1 => ?_) (fun hc1 => ?_)
      · replace hr := (if_pos hc1).symm.trans hr
        refine lv_iconst (v := (-1)) hx hb dC_otherDiskWithRoom_44 (by decide) ?_
        obtain rfl := Option.some.inj hr
        exact W.iret (v := (-1)) hx hb hrt (fun t ht _ => ⟨rfl, ht⟩) (fun _ z => nomatch z) dC_otherDiskWithRoom_45 hlocks
      · replace hr := (if_neg hc1).symm.trans hr
        refine lv_aload_n hx hb dC_otherDiskWithRoom_9 rfl (lv_at hl 0 rfl) ?_
        refine lv_iload_n hx hb dC_otherDiskWithRoom_10 rfl (lv_at hl 2 rfl) ?_
        refine lv_iload_n hx hb dC_otherDiskWithRoom_11 rfl (lv_at hl 1 rfl) ?_
        obtain ⟨q2, hq3, hr⟩ := Option.bind_eq_some_iff.mp hr
        refine tp_kP (rest := []) S hK hP hD rfl rfl (cC_isOn l D h a cI cZ _ σ x2 x1 q2 hq3) (cwV 2 hTB tp_gC_isOn rfl rfl rfl ⟨rfl, by decide, by decide, by decide +kernel⟩ ⟨Nat.le_of_ble_eq_true rfl, Nat.le_of_ble_eq_true rfl⟩) rfl hl.1 rfl (Nat.le_of_ble_eq_true rfl) dC_otherDiskWithRoom_12 ⟨Nat.zero_le _, Nat.zero_le _⟩ ?_
        refine lv_if_eq (tgt := 38) hx hb dC_otherDiskWithRoom_15 (by decide) (fun hc4 => ?_) (fun hc4 => ?_)
        · replace hr := (if_pos hc4).symm.trans hr
          refine lv_iinc (k := 2) (v := (x2 + 1)) hx hb dC_otherDiskWithRoom_38 hl rfl (tp_ii1 _) (by decide) rfl (fun ls hl => ?_)
          have hl : lv_has ls 3 [(2, .int (x2 + 1)), (0, .ref h), (1, .int x1)] := hl
          refine lv_goto (tgt := 2) hx hb dC_otherDiskWithRoom_41 (by decide) ?_
          exact ih2 (x2 + 1) ls hr (lv_sub hl [1, 2, 0] rfl)
        · replace hr := (if_neg hc4).symm.trans hr
          refine lv_aload_n hx hb dC_otherDiskWithRoom_18 rfl (lv_at hl 0 rfl) ?_
          refine lv_aload_n hx hb dC_otherDiskWithRoom_19 rfl (lv_at hl 0 rfl) ?_
          refine lv_iload_n hx hb dC_otherDiskWithRoom_20 rfl (lv_at hl 2 rfl) ?_
          refine lv_iload_n hx hb dC_otherDiskWithRoom_21 rfl (lv_at hl 1 rfl) ?_
          obtain ⟨q5, hq6, hr⟩ := Option.bind_eq_some_iff.mp hr
          refine tp_kP (rest := [.ref h]) S hK hP hD rfl rfl (cC_otherThan l D h a cI cZ _ σ x2 x1 q5 hq6) (cwV 2 hTB tp_gC_otherThan rfl rfl rfl ⟨rfl, by decide, by decide, by decide +kernel⟩ ⟨Nat.le_of_ble_eq_true rfl, Nat.le_of_ble_eq_true rfl⟩) rfl hl.1 rfl (Nat.le_of_ble_eq_true rfl) dC_otherDiskWithRoom_22 ⟨Nat.zero_le _, Nat.zero_le _⟩ ?_
          obtain ⟨q7, hq8, hr⟩ := Option.bind_eq_some_iff.mp hr
          refine tp_kP (rest := []) S hK hP hD rfl rfl (cC_staysWithRoom l D h a cI cZ _ σ q5 q7 hq8) (cwV 1 hTB tp_gC_staysWithRoom rfl rfl rfl ⟨rfl, by decide, by decide, by decide +kernel⟩ ⟨Nat.le_of_ble_eq_true rfl, Nat.le_of_ble_eq_true rfl⟩) rfl hl.1 rfl (Nat.le_of_ble_eq_true rfl) dC_otherDiskWithRoom_25 ⟨Nat.zero_le _, Nat.zero_le _⟩ ?_
          refine lv_if_eq (tgt := 38) hx hb dC_otherDiskWithRoom_28 (by decide) (fun hc9 => ?_) (fun hc9 => ?_)
          · replace hr := (if_pos hc9).symm.trans hr
            refine lv_iinc (k := 2) (v := (x2 + 1)) hx hb dC_otherDiskWithRoom_38 hl rfl (tp_ii1 _) (by decide) rfl (fun ls hl => ?_)
            have hl : lv_has ls 3 [(2, .int (x2 + 1)), (0, .ref h), (1, .int x1)] := hl
            refine lv_goto (tgt := 2) hx hb dC_otherDiskWithRoom_41 (by decide) ?_
            exact ih2 (x2 + 1) ls hr (lv_sub hl [1, 2, 0] rfl)
          · replace hr := (if_neg hc9).symm.trans hr
            refine lv_aload_n hx hb dC_otherDiskWithRoom_31 rfl (lv_at hl 0 rfl) ?_
            refine lv_iload_n hx hb dC_otherDiskWithRoom_32 rfl (lv_at hl 2 rfl) ?_
            refine lv_iload_n hx hb dC_otherDiskWithRoom_33 rfl (lv_at hl 1 rfl) ?_
            obtain ⟨q10, hq11, hr⟩ := Option.bind_eq_some_iff.mp hr
            refine tp_kP (rest := []) S hK hP hD rfl rfl (cC_otherThan l D h a cI cZ _ σ x2 x1 q10 hq11) (cwV 2 hTB tp_gC_otherThan rfl rfl rfl ⟨rfl, by decide, by decide, by decide +kernel⟩ ⟨Nat.le_of_ble_eq_true rfl, Nat.le_of_ble_eq_true rfl⟩) rfl hl.1 rfl (Nat.le_of_ble_eq_true rfl) dC_otherDiskWithRoom_34 ⟨Nat.zero_le _, Nat.zero_le _⟩ ?_
            obtain rfl := Option.some.inj hr
            exact W.iret (v := q10) hx hb hrt (fun t ht _ => ⟨rfl, ht⟩) (fun _ z => nomatch z) dC_otherDiskWithRoom_37 hlocks
  exact loop2 401 0 ls hr (lv_sub hl [1, 2, 0] rfl)
set_option maxHeartbeats 4000000 in
set_option maxRecDepth 100000 in
theorem cC_makeRoomToMoveOff (l : Launch) (D : va_G) (h : Nat) (a : Nat → Nat) (cI cZ : ClassId) (sz : Nat) (σ : tp_St) (r : (Int32 × tp_St)) (hr : fC_makeRoomToMoveOff σ = some r) : Met l tp_yC_makeRoomToMoveOff (tp_wsT tp_yC_makeRoomToMoveOff tp_bC_makeRoomToMoveOff 3 (some .boolean)) { frames := 4, cells := 0, slots := 0, locals := 90 } (tp_PcW D [(cI, .int), (cZ, .boolean)] (tp_wC h a cI cZ σ) sz [.ref h]) (tp_qW (some (.int r.1)) D (tp_wC h a cI cZ r.2) (va_A (tp_wC h a cI cZ σ) sz)) 0 0 (va_A (tp_wC h a cI cZ σ) sz) := by
  refine Met.ofW (cc := tp_bC_makeRoomToMoveOff) (maxL := 3) (ret := (some .boolean)) (by decide) rfl ?_
  intro p e s m args below meth c s₁ B hml hv
  obtain ⟨rfl, hsz, hP, hK, hD0⟩ := hv
  have hx := B.exec
  have hb := B.bytes
  have hrt := B.returns
  have hTB : ∀ w ∈ tp_TB, w.before _ s = true := fun w z => atoms_spec (ws := (tp_wsT tp_yC_makeRoomToMoveOff tp_bC_makeRoomToMoveOff 3 (some .boolean))) B.pre w (List.mem_cons_of_mem _ z)
  have hown : s.vm.findClass tp_RC = some m.cls := findClass_of_methodNamed B.named
  have hlocks := B.notSynchronized
  have S : CallFix p m c tp_bC_makeRoomToMoveOff 3 s _ tp_TB tp_RC := ⟨hx, hb, hml, hown, hTB⟩
  subst hsz
  have hD : va_D (va_A (tp_wC h a cI cZ σ) s.heap.size) (tp_wC h a cI cZ σ) := hD0.self
  have hA : ∀ q : Nat, s.heap.size ≤ q → va_A (tp_wC h a cI cZ σ) s.heap.size q := fun q z => Or.inr z
  have hS : va_S (va_A (tp_wC h a cI cZ σ) s.heap.size) s.heap s.heap [] := va_S.rf
  have hl := lv_entry ([.ref h]) (n := 3) (Nat.le_of_ble_eq_true rfl)
  rw [lg_entry_eq]
  generalize (lg_sl ([.ref h]) ++ List.replicate (3 - (lg_sl ([.ref h])).length) Slot.unset).toArray = ls at hl ⊢
  have hl : lv_has ls 3 [(0, .ref h)] := hl
  rw [fC_makeRoomToMoveOff] at hr
  refine lv_iconst (v := 0) hx hb dC_makeRoomToMoveOff_0 (by decide) ?_
  refine lv_istore_n hx hb dC_makeRoomToMoveOff_1 rfl hl (by decide) rfl (fun ls hl => ?_)
  have hl : lv_has ls 3 [(1, .int 0), (0, .ref h)] := hl
  have loop2 : ∀ (n2 : Nat) (x1 : Int32) (σ2 : tp_St) (H : Heap) (locs : List Loc) (ls : Array Slot), fC_makeRoomToMoveOff_L2  n2 x1 σ2 = some r → lv_has ls 3 [(0, .ref h), (1, .int x1)] → va_P D tp_CL (tp_wC h a cI cZ σ2) H → va_D (va_A (tp_wC h a cI cZ σ) s.heap.size) (tp_wC h a cI cZ σ2) → va_S (va_A (tp_wC h a cI cZ σ) s.heap.size) s.heap H locs → W p l e { frames := 4, cells := 0, slots := 0, locals := 90 } s m (([.ref h] : List Value).toArray) below meth c H locs 0 0 (MQ below (tp_qW (some (.int r.1)) D (tp_wC h a cI cZ r.2) (va_A (tp_wC h a cI cZ σ) s.heap.size)) (([.ref h] : List Value).toArray) s 0 0 (va_A (tp_wC h a cI cZ σ) s.heap.size)) (F0 m 2 ls []) := by
    intro n2
    induction n2 with
    | zero => intro x1 σ2 H locs ls hr hl hP hD hS; exact nomatch (show (none : Option (Int32 × tp_St)) = some r from hr)
    | succ n2 ih2 =>
      intro x1 σ2 H locs ls hr hl hP hD hS
      rw [fC_makeRoomToMoveOff_L2] at hr
      refine lv_iload_n hx hb dC_makeRoomToMoveOff_2 rfl (lv_at hl 1 rfl) ?_
      refine lv_bipush (v := 12) hx hb dC_makeRoomToMoveOff_3 (by decide) ?_
      refine lv_icmp_ge (tgt := 53) hx hb dC_makeRoomToMoveOff_5 (by decide) (fun hc1 => ?_) (fun hc1 => ?_)
      · replace hr := (if_pos hc1).symm.trans hr
        refine lv_iconst (v := 0) hx hb dC_makeRoomToMoveOff_53 (by decide) ?_
        obtain rfl := Option.some.inj hr
        exact W.zret (v := 0) hx hb hrt (by decide) (fun t ht _ => ⟨rfl, by rw [ht]; exact hP, hS.F ht⟩) hS.2.2 dC_makeRoomToMoveOff_54 hlocks
      · replace hr := (if_neg hc1).symm.trans hr
        refine lv_aload_n hx hb dC_makeRoomToMoveOff_8 rfl (lv_at hl 0 rfl) ?_
        refine tp_gtC S hK hP 2 (by decide) (v := .ref (a 2)) tp_mC_f2 rfl dC_makeRoomToMoveOff_9 ?_
        refine lv_iload_n hx hb dC_makeRoomToMoveOff_12 rfl (lv_at hl 1 rfl) ?_
        by_cases hb2 : tp_oob x1 12
        · exact nomatch ((if_pos hb2).symm.trans hr)
        replace hr := (if_neg hb2).symm.trans hr
        refine va_zald hx hb hK hP 3 1 rfl rfl hb2 dC_makeRoomToMoveOff_13 ?_
        refine lv_if_eq (tgt := 25) hx hb dC_makeRoomToMoveOff_14 (by decide) (fun hc3 => ?_) (fun hc3 => ?_)
        · replace hr := (if_pos hc3).symm.trans hr
          refine lv_iconst (v := (-1)) hx hb dC_makeRoomToMoveOff_25 (by decide) ?_
          refine lv_istore_n hx hb dC_makeRoomToMoveOff_26 rfl hl (by decide) rfl (fun ls hl => ?_)
          have hl : lv_has ls 3 [(2, .int (-1)), (0, .ref h), (1, .int x1)] := hl
          refine lv_iload_n hx hb dC_makeRoomToMoveOff_27 rfl (lv_at hl 0 rfl) ?_
          refine lv_iconst (v := (-1)) hx hb dC_makeRoomToMoveOff_28 (by decide) ?_
          refine lv_icmp_eq (tgt := 47) hx hb dC_makeRoomToMoveOff_29 (by decide) (fun _ => ?_) (fun z => absurd (by decide) z)
          refine lv_iinc (k := 2) (v := (x1 + 1)) hx hb dC_makeRoomToMoveOff_47 hl rfl (tp_ii1 _) (by decide) rfl (fun ls hl => ?_)
          have hl : lv_has ls 3 [(1, .int (x1 + 1)), (2, .int (-1)), (0, .ref h)] := hl
          refine lv_goto (tgt := 2) hx hb dC_makeRoomToMoveOff_50 (by decide) ?_
          exact ih2 (x1 + 1) σ2 H locs ls hr (lv_sub hl [2, 0] rfl) hP hD hS
        · replace hr := (if_neg hc3).symm.trans hr
          refine lv_aload_n hx hb dC_makeRoomToMoveOff_17 rfl (lv_at hl 0 rfl) ?_
          refine lv_iload_n hx hb dC_makeRoomToMoveOff_18 rfl (lv_at hl 1 rfl) ?_
          obtain ⟨q4, hq5, hr⟩ := Option.bind_eq_some_iff.mp hr
          refine tp_kP (rest := []) S hK hP hD rfl rfl (cC_otherDiskWithRoom l D h a cI cZ _ σ2 x1 q4 hq5) (cwV 1 hTB tp_gC_otherDiskWithRoom rfl rfl rfl ⟨rfl, by decide, by decide, by decide +kernel⟩ ⟨Nat.le_of_ble_eq_true rfl, Nat.le_of_ble_eq_true rfl⟩) rfl hl.1 rfl (Nat.le_of_ble_eq_true rfl) dC_makeRoomToMoveOff_19 ⟨Nat.zero_le _, Nat.zero_le _⟩ ?_
          refine lv_goto (tgt := 26) hx hb dC_makeRoomToMoveOff_22 (by decide) ?_
          refine lv_istore_n hx hb dC_makeRoomToMoveOff_26 rfl hl (by decide) rfl (fun ls hl => ?_)
          have hl : lv_has ls 3 [(2, .int q4), (0, .ref h), (1, .int x1)] := hl
          refine lv_iload_n hx hb dC_makeRoomToMoveOff_27 rfl (lv_at hl 0 rfl) ?_
          refine lv_iconst (v := (-1)) hx hb dC_makeRoomToMoveOff_28 (by decide) ?_
          refine lv_icmp_eq (tgt := 47) hx hb dC_makeRoomToMoveOff_29 (by decide) (fun hc6 => ?_) (fun hc6 => ?_)
          · replace hr := (if_pos hc6).symm.trans hr
            refine lv_iinc (k := 2) (v := (x1 + 1)) hx hb dC_makeRoomToMoveOff_47 hl rfl (tp_ii1 _) (by decide) rfl (fun ls hl => ?_)
            have hl : lv_has ls 3 [(1, .int (x1 + 1)), (2, .int q4), (0, .ref h)] := hl
            refine lv_goto (tgt := 2) hx hb dC_makeRoomToMoveOff_50 (by decide) ?_
            exact ih2 (x1 + 1) σ2 H locs ls hr (lv_sub hl [2, 0] rfl) hP hD hS
          · replace hr := (if_neg hc6).symm.trans hr
            refine lv_aload_n hx hb dC_makeRoomToMoveOff_32 rfl (lv_at hl 1 rfl) ?_
            refine lv_iload_n hx hb dC_makeRoomToMoveOff_33 rfl (lv_at hl 0 rfl) ?_
            obtain ⟨q7, hq8, hr⟩ := Option.bind_eq_some_iff.mp hr
            refine tp_kV (rest := []) S hK hP hD hS hA rfl rfl (cC_makeRoomBeside l D h a cI cZ _ σ2 q4 q7 hq8) (cwV 1 hTB tp_gC_makeRoomBeside rfl rfl rfl ⟨rfl, by decide, by decide, by decide +kernel⟩ ⟨Nat.le_of_ble_eq_true rfl, Nat.le_of_ble_eq_true rfl⟩) rfl hl.1 rfl (Nat.le_of_ble_eq_true rfl) dC_makeRoomToMoveOff_34 ⟨Nat.zero_le _, Nat.zero_le _⟩ (fun H locs hP hS => ?_)
            have hP : va_P D tp_CL (tp_wC h a cI cZ q7.2) H := hP
            have hD : va_D (va_A (tp_wC h a cI cZ σ) s.heap.size) (tp_wC h a cI cZ q7.2) := tp_dre hD tp_wC_fst
            refine lv_iconst (v := (-1)) hx hb dC_makeRoomToMoveOff_37 (by decide) ?_
            refine lv_icmp_eq (tgt := 45) hx hb dC_makeRoomToMoveOff_38 (by decide) (fun hc9 => ?_) (fun hc9 => ?_)
            · replace hr := (if_pos hc9).symm.trans hr
              refine lv_iconst (v := 0) hx hb dC_makeRoomToMoveOff_45 (by decide) ?_
              obtain rfl := Option.some.inj hr
              exact W.zret (v := 0) hx hb hrt (by decide) (fun t ht _ => ⟨rfl, by rw [ht]; exact hP, hS.F ht⟩) hS.2.2 dC_makeRoomToMoveOff_46 hlocks
            · replace hr := (if_neg hc9).symm.trans hr
              refine lv_iconst (v := 1) hx hb dC_makeRoomToMoveOff_41 (by decide) ?_
              refine lv_goto (tgt := 46) hx hb dC_makeRoomToMoveOff_42 (by decide) ?_
              obtain rfl := Option.some.inj hr
              exact W.zret (v := 1) hx hb hrt (by decide) (fun t ht _ => ⟨rfl, by rw [ht]; exact hP, hS.F ht⟩) hS.2.2 dC_makeRoomToMoveOff_46 hlocks
  exact loop2 13 0 σ _ _ ls hr (lv_sub hl [1, 0] rfl) hP hD hS
set_option maxHeartbeats 4000000 in
set_option maxRecDepth 100000 in
theorem cC_nextStep (l : Launch) (D : va_G) (h : Nat) (a : Nat → Nat) (cI cZ : ClassId) (sz : Nat) (σ : tp_St) (r : (Int32 × tp_St)) (hr : fC_nextStep σ = some r) : Met l tp_yC_nextStep (tp_wsT tp_yC_nextStep tp_bC_nextStep 1 (some .int)) { frames := 5, cells := 0, slots := 0, locals := 112 } (tp_PcW D [(cI, .int), (cZ, .boolean)] (tp_wC h a cI cZ σ) sz [.ref h]) (tp_qW (some (.int r.1)) D (tp_wC h a cI cZ r.2) (va_A (tp_wC h a cI cZ σ) sz)) 0 0 (va_A (tp_wC h a cI cZ σ) sz) := by
  refine Met.ofW (cc := tp_bC_nextStep) (maxL := 1) (ret := (some .int)) (by decide) rfl ?_
  intro p e s m args below meth c s₁ B hml hv
  obtain ⟨rfl, hsz, hP, hK, hD0⟩ := hv
  have hx := B.exec
  have hb := B.bytes
  have hrt := B.returns
  have hTB : ∀ w ∈ tp_TB, w.before _ s = true := fun w z => atoms_spec (ws := (tp_wsT tp_yC_nextStep tp_bC_nextStep 1 (some .int))) B.pre w (List.mem_cons_of_mem _ z)
  have hown : s.vm.findClass tp_RC = some m.cls := findClass_of_methodNamed B.named
  have hlocks := B.notSynchronized
  have S : CallFix p m c tp_bC_nextStep 1 s _ tp_TB tp_RC := ⟨hx, hb, hml, hown, hTB⟩
  subst hsz
  have hD : va_D (va_A (tp_wC h a cI cZ σ) s.heap.size) (tp_wC h a cI cZ σ) := hD0.self
  have hA : ∀ q : Nat, s.heap.size ≤ q → va_A (tp_wC h a cI cZ σ) s.heap.size q := fun q z => Or.inr z
  have hS : va_S (va_A (tp_wC h a cI cZ σ) s.heap.size) s.heap s.heap [] := va_S.rf
  have hl := lv_entry ([.ref h]) (n := 1) (Nat.le_of_ble_eq_true rfl)
  rw [lg_entry_eq]
  generalize (lg_sl ([.ref h]) ++ List.replicate (1 - (lg_sl ([.ref h])).length) Slot.unset).toArray = ls at hl ⊢
  have hl : lv_has ls 1 [(0, .ref h)] := hl
  rw [fC_nextStep] at hr
  refine lv_aload_n hx hb dC_nextStep_0 rfl (lv_at hl 0 rfl) ?_
  obtain ⟨q1, hq2, hr⟩ := Option.bind_eq_some_iff.mp hr
  refine tp_kV (rest := []) S hK hP hD hS hA rfl rfl (cC_mendOne l D h a cI cZ _ σ  q1 hq2) (cwV 0 hTB tp_gC_mendOne rfl rfl rfl ⟨rfl, by decide, by decide, by decide +kernel⟩ ⟨Nat.le_of_ble_eq_true rfl, Nat.le_of_ble_eq_true rfl⟩) rfl hl.1 rfl (Nat.le_of_ble_eq_true rfl) dC_nextStep_1 ⟨Nat.zero_le _, Nat.zero_le _⟩ (fun H locs hP hS => ?_)
  have hP : va_P D tp_CL (tp_wC h a cI cZ q1.2) H := hP
  have hD : va_D (va_A (tp_wC h a cI cZ σ) s.heap.size) (tp_wC h a cI cZ q1.2) := tp_dre hD tp_wC_fst
  refine lv_if_eq (tgt := 9) hx hb dC_nextStep_4 (by decide) (fun hc3 => ?_) (fun hc3 => ?_)
  · replace hr := (if_pos hc3).symm.trans hr
    refine lv_aload_n hx hb dC_nextStep_9 rfl (lv_at hl 0 rfl) ?_
    obtain ⟨q4, hq5, hr⟩ := Option.bind_eq_some_iff.mp hr
    refine tp_kV (rest := []) S hK hP hD hS hA rfl rfl (cC_makeRoomToMend l D h a cI cZ _ q1.2  q4 hq5) (cwV 0 hTB tp_gC_makeRoomToMend rfl rfl rfl ⟨rfl, by decide, by decide, by decide +kernel⟩ ⟨Nat.le_of_ble_eq_true rfl, Nat.le_of_ble_eq_true rfl⟩) rfl hl.1 rfl (Nat.le_of_ble_eq_true rfl) dC_nextStep_10 ⟨Nat.zero_le _, Nat.zero_le _⟩ (fun H locs hP hS => ?_)
    have hP : va_P D tp_CL (tp_wC h a cI cZ q4.2) H := hP
    have hD : va_D (va_A (tp_wC h a cI cZ σ) s.heap.size) (tp_wC h a cI cZ q4.2) := tp_dre hD tp_wC_fst
    refine lv_if_eq (tgt := 18) hx hb dC_nextStep_13 (by decide) (fun hc6 => ?_) (fun hc6 => ?_)
    · replace hr := (if_pos hc6).symm.trans hr
      refine lv_aload_n hx hb dC_nextStep_18 rfl (lv_at hl 0 rfl) ?_
      obtain ⟨q7, hq8, hr⟩ := Option.bind_eq_some_iff.mp hr
      refine tp_kV (rest := []) S hK hP hD hS hA rfl rfl (cC_moveOneOff l D h a cI cZ _ q4.2  q7 hq8) (cwV 0 hTB tp_gC_moveOneOff rfl rfl rfl ⟨rfl, by decide, by decide, by decide +kernel⟩ ⟨Nat.le_of_ble_eq_true rfl, Nat.le_of_ble_eq_true rfl⟩) rfl hl.1 rfl (Nat.le_of_ble_eq_true rfl) dC_nextStep_19 ⟨Nat.zero_le _, Nat.zero_le _⟩ (fun H locs hP hS => ?_)
      have hP : va_P D tp_CL (tp_wC h a cI cZ q7.2) H := hP
      have hD : va_D (va_A (tp_wC h a cI cZ σ) s.heap.size) (tp_wC h a cI cZ q7.2) := tp_dre hD tp_wC_fst
      refine lv_if_eq (tgt := 27) hx hb dC_nextStep_22 (by decide) (fun hc9 => ?_) (fun hc9 => ?_)
      · replace hr := (if_pos hc9).symm.trans hr
        refine lv_aload_n hx hb dC_nextStep_27 rfl (lv_at hl 0 rfl) ?_
        obtain ⟨q10, hq11, hr⟩ := Option.bind_eq_some_iff.mp hr
        refine tp_kV (rest := []) S hK hP hD hS hA rfl rfl (cC_makeRoomToMoveOff l D h a cI cZ _ q7.2  q10 hq11) (cwV 0 hTB tp_gC_makeRoomToMoveOff rfl rfl rfl ⟨rfl, by decide, by decide, by decide +kernel⟩ ⟨Nat.le_of_ble_eq_true rfl, Nat.le_of_ble_eq_true rfl⟩) rfl hl.1 rfl (Nat.le_of_ble_eq_true rfl) dC_nextStep_28 ⟨Nat.zero_le _, Nat.zero_le _⟩ (fun H locs hP hS => ?_)
        have hP : va_P D tp_CL (tp_wC h a cI cZ q10.2) H := hP
        have hD : va_D (va_A (tp_wC h a cI cZ σ) s.heap.size) (tp_wC h a cI cZ q10.2) := tp_dre hD tp_wC_fst
        refine lv_if_eq (tgt := 38) hx hb dC_nextStep_31 (by decide) (fun hc12 => ?_) (fun hc12 => ?_)
        · replace hr := (if_pos hc12).symm.trans hr
          refine lv_iconst (v := 0) hx hb dC_nextStep_38 (by decide) ?_
          obtain rfl := Option.some.inj hr
          exact W.iret (v := 0) hx hb hrt (fun t ht _ => ⟨rfl, by rw [ht]; exact hP, hS.F ht⟩) hS.2.2 dC_nextStep_39 hlocks
        · replace hr := (if_neg hc12).symm.trans hr
          refine lv_iconst (v := 4) hx hb dC_nextStep_34 (by decide) ?_
          refine lv_goto (tgt := 39) hx hb dC_nextStep_35 (by decide) ?_
          obtain rfl := Option.some.inj hr
          exact W.iret (v := 4) hx hb hrt (fun t ht _ => ⟨rfl, by rw [ht]; exact hP, hS.F ht⟩) hS.2.2 dC_nextStep_39 hlocks
      · replace hr := (if_neg hc9).symm.trans hr
        refine lv_iconst (v := 3) hx hb dC_nextStep_25 (by decide) ?_
        obtain rfl := Option.some.inj hr
        exact W.iret (v := 3) hx hb hrt (fun t ht _ => ⟨rfl, by rw [ht]; exact hP, hS.F ht⟩) hS.2.2 dC_nextStep_26 hlocks
    · replace hr := (if_neg hc6).symm.trans hr
      refine lv_iconst (v := 2) hx hb dC_nextStep_16 (by decide) ?_
      obtain rfl := Option.some.inj hr
      exact W.iret (v := 2) hx hb hrt (fun t ht _ => ⟨rfl, by rw [ht]; exact hP, hS.F ht⟩) hS.2.2 dC_nextStep_17 hlocks
  · replace hr := (if_neg hc3).symm.trans hr
    refine lv_iconst (v := 1) hx hb dC_nextStep_7 (by decide) ?_
    obtain rfl := Option.some.inj hr
    exact W.iret (v := 1) hx hb hrt (fun t ht _ => ⟨rfl, by rw [ht]; exact hP, hS.F ht⟩) hS.2.2 dC_nextStep_8 hlocks
