set_option maxHeartbeats 4000000 in
set_option maxRecDepth 100000 in
theorem cM_tidy (l : Launch) (D : va_G) (h : Nat) (a : Nat → Nat) (cI cZ : ClassId) (sz : Nat) (σ : tp_St) (r : tp_St) (hr : fM_tidy σ = some r) : Met l tp_yM_tidy (tp_wsT tp_yM_tidy tp_bM_tidy 2 none) { frames := 2, cells := 0, slots := 0, locals := 45 } (tp_PcW D [(cI, .int), (cZ, .boolean)] (tp_wM h a cI cZ σ) sz [.ref h]) (tp_qW none D (tp_wM h a cI cZ r) (va_A (tp_wM h a cI cZ σ) sz)) 0 0 (va_A (tp_wM h a cI cZ σ) sz) := by
  refine Met.ofW (cc := tp_bM_tidy) (maxL := 2) (ret := none) (by decide) rfl ?_
  intro p e s m args below meth c s₁ B hml hv
  obtain ⟨rfl, hsz, hP, hK, hD0⟩ := hv
  have hx := B.exec
  have hb := B.bytes
  have hrt := B.returns
  have hTB : ∀ w ∈ tp_TB, w.before _ s = true := fun w z => atoms_spec (ws := (tp_wsT tp_yM_tidy tp_bM_tidy 2 none)) B.pre w (List.mem_cons_of_mem _ z)
  have hown : s.vm.findClass tp_RM = some m.cls := findClass_of_methodNamed B.named
  have hlocks := B.notSynchronized
  have S : CallFix p m c tp_bM_tidy 2 s _ tp_TB tp_RM := ⟨hx, hb, hml, hown, hTB⟩
  subst hsz
  have hD : va_D (va_A (tp_wM h a cI cZ σ) s.heap.size) (tp_wM h a cI cZ σ) := hD0.self
  have hA : ∀ q : Nat, s.heap.size ≤ q → va_A (tp_wM h a cI cZ σ) s.heap.size q := fun q z => Or.inr z
  have hS : va_S (va_A (tp_wM h a cI cZ σ) s.heap.size) s.heap s.heap [] := va_S.rf
  have hl := lv_entry ([.ref h]) (n := 2) (Nat.le_of_ble_eq_true rfl)
  rw [lg_entry_eq]
  generalize (lg_sl ([.ref h]) ++ List.replicate (2 - (lg_sl ([.ref h])).length) Slot.unset).toArray = ls at hl ⊢
  have hl : lv_has ls 2 [(0, .ref h)] := hl
  rw [fM_tidy] at hr
  refine lv_iconst (v := 0) hx hb dM_tidy_0 (by decide) ?_
  refine lv_istore_n hx hb dM_tidy_1 rfl hl (by decide) rfl (fun ls hl => ?_)
  have hl : lv_has ls 2 [(1, .int 0), (0, .ref h)] := hl
  have loop2 : ∀ (n2 : Nat) (x1 : Int32) (σ2 : tp_St) (H : Heap) (locs : List Loc) (ls : Array Slot), fM_tidy_L2  n2 x1 σ2 = some r → lv_has ls 2 [(0, .ref h), (1, .int x1)] → va_P D tp_CL (tp_wM h a cI cZ σ2) H → va_D (va_A (tp_wM h a cI cZ σ) s.heap.size) (tp_wM h a cI cZ σ2) → va_S (va_A (tp_wM h a cI cZ σ) s.heap.size) s.heap H locs → W p l e { frames := 2, cells := 0, slots := 0, locals := 45 } s m (([.ref h] : List Value).toArray) below meth c H locs 0 0 (MQ below (tp_qW none D (tp_wM h a cI cZ r) (va_A (tp_wM h a cI cZ σ) s.heap.size)) (([.ref h] : List Value).toArray) s 0 0 (va_A (tp_wM h a cI cZ σ) s.heap.size)) (F0 m 2 ls []) := by
    intro n2
    induction n2 with
    | zero => intro x1 σ2 H locs ls hr hl hP hD hS; exact nomatch (show (none : Option tp_St) = some r from hr)
    | succ n2 ih2 =>
      intro x1 σ2 H locs ls hr hl hP hD hS
      rw [fM_tidy_L2] at hr
      refine lv_iload_n hx hb dM_tidy_2 rfl (lv_at hl 1 rfl) ?_
      refine lv_bipush (v := 12) hx hb dM_tidy_3 (by decide) ?_
      refine lv_icmp_ge (tgt := 47) hx hb dM_tidy_5 (by decide) (fun hc1 => ?_) (fun hc1 => ?_)
      · replace hr := (if_pos hc1).symm.trans hr
        obtain rfl := Option.some.inj hr
        exact W.vret hx hb hrt (fun t ht _ => ⟨rfl, by rw [ht]; exact hP, hS.F ht⟩) hS.2.2 dM_tidy_47 hlocks
      · replace hr := (if_neg hc1).symm.trans hr
        refine lv_aload_n hx hb dM_tidy_8 rfl (lv_at hl 0 rfl) ?_
        refine tp_gtM S hK hP 1 (by decide) (v := .ref (a 1)) tp_mM_f1 rfl dM_tidy_9 ?_
        refine lv_iload_n hx hb dM_tidy_12 rfl (lv_at hl 1 rfl) ?_
        by_cases hb2 : tp_oob x1 12
        · exact nomatch ((if_pos hb2).symm.trans hr)
        replace hr := (if_neg hb2).symm.trans hr
        refine va_iald hx hb hK hP 1 0 rfl rfl hb2 dM_tidy_13 ?_
        refine lv_if_le (tgt := 41) hx hb dM_tidy_14 (by decide) (fun hc3 => ?_) (fun hc3 => ?_)
        · replace hr := (if_pos hc3).symm.trans hr
          refine lv_iinc (k := 1) (v := (x1 + 1)) hx hb dM_tidy_41 hl rfl (tp_ii1 _) (by decide) rfl (fun ls hl => ?_)
          have hl : lv_has ls 2 [(1, .int (x1 + 1)), (0, .ref h)] := hl
          refine lv_goto (tgt := 2) hx hb dM_tidy_44 (by decide) ?_
          exact ih2 (x1 + 1) σ2 H locs ls hr (lv_sub hl [1, 0] rfl) hP hD hS
        · replace hr := (if_neg hc3).symm.trans hr
          refine lv_aload_n hx hb dM_tidy_17 rfl (lv_at hl 0 rfl) ?_
          refine tp_gtM S hK hP 2 (by decide) (v := .ref (a 2)) tp_mM_f2 rfl dM_tidy_18 ?_
          refine lv_iload_n hx hb dM_tidy_21 rfl (lv_at hl 1 rfl) ?_
          refine va_zald hx hb hK hP 2 1 rfl rfl hb2 dM_tidy_22 ?_
          refine lv_if_eq (tgt := 41) hx hb dM_tidy_23 (by decide) (fun hc4 => ?_) (fun hc4 => ?_)
          · replace hr := (if_pos hc4).symm.trans hr
            refine lv_iinc (k := 1) (v := (x1 + 1)) hx hb dM_tidy_41 hl rfl (tp_ii1 _) (by decide) rfl (fun ls hl => ?_)
            have hl : lv_has ls 2 [(1, .int (x1 + 1)), (0, .ref h)] := hl
            refine lv_goto (tgt := 2) hx hb dM_tidy_44 (by decide) ?_
            exact ih2 (x1 + 1) σ2 H locs ls hr (lv_sub hl [1, 0] rfl) hP hD hS
          · replace hr := (if_neg hc4).symm.trans hr
            refine lv_aload_n hx hb dM_tidy_26 rfl (lv_at hl 0 rfl) ?_
            refine lv_iload_n hx hb dM_tidy_27 rfl (lv_at hl 1 rfl) ?_
            obtain ⟨q5, hq6, hr⟩ := Option.bind_eq_some_iff.mp hr
            refine tp_kP (rest := []) S hK hP hD rfl rfl (cM_used l D h a cI cZ _ σ2 x1 q5 hq6) (cwV 1 hTB tp_gM_used rfl rfl rfl ⟨rfl, by decide, by decide, by decide +kernel⟩ ⟨Nat.le_of_ble_eq_true rfl, Nat.le_of_ble_eq_true rfl⟩) rfl hl.1 rfl (Nat.le_of_ble_eq_true rfl) dM_tidy_28 ⟨Nat.zero_le _, Nat.zero_le _⟩ ?_
            refine lv_if_ne (tgt := 41) hx hb dM_tidy_31 (by decide) (fun hc7 => ?_) (fun hc7 => ?_)
            · replace hr := (if_neg hc7).symm.trans hr
              refine lv_iinc (k := 1) (v := (x1 + 1)) hx hb dM_tidy_41 hl rfl (tp_ii1 _) (by decide) rfl (fun ls hl => ?_)
              have hl : lv_has ls 2 [(1, .int (x1 + 1)), (0, .ref h)] := hl
              refine lv_goto (tgt := 2) hx hb dM_tidy_44 (by decide) ?_
              exact ih2 (x1 + 1) σ2 H locs ls hr (lv_sub hl [1, 0] rfl) hP hD hS
            · replace hr := (if_pos hc7).symm.trans hr
              refine lv_aload_n hx hb dM_tidy_34 rfl (lv_at hl 0 rfl) ?_
              refine tp_gtM S hK hP 1 (by decide) (v := .ref (a 1)) tp_mM_f1 rfl dM_tidy_35 ?_
              refine lv_iload_n hx hb dM_tidy_38 rfl (lv_at hl 1 rfl) ?_
              refine lv_iconst (v := 0) hx hb dM_tidy_39 (by decide) ?_
              refine tp_asM1 S hK hP hD hS hb2 dM_tidy_40 (fun H locs hP hD hS => ?_)
              refine lv_iinc (k := 1) (v := (x1 + 1)) hx hb dM_tidy_41 hl rfl (tp_ii1 _) (by decide) rfl (fun ls hl => ?_)
              have hl : lv_has ls 2 [(1, .int (x1 + 1)), (0, .ref h)] := hl
              refine lv_goto (tgt := 2) hx hb dM_tidy_44 (by decide) ?_
              exact ih2 (x1 + 1) (tp_up σ2 1 x1.toNatClampNeg 0) H locs ls hr (lv_sub hl [1, 0] rfl) hP hD hS
  exact loop2 13 0 σ _ _ ls hr (lv_sub hl [1, 0] rfl) hP hD hS
set_option maxHeartbeats 4000000 in
set_option maxRecDepth 100000 in
theorem cM_makeRoom (l : Launch) (D : va_G) (h : Nat) (a : Nat → Nat) (cI cZ : ClassId) (sz : Nat) (σ : tp_St) (x1 : Int32) (r : (Int32 × tp_St)) (hr : fM_makeRoom σ x1 = some r) : Met l tp_yM_makeRoom (tp_wsT tp_yM_makeRoom tp_bM_makeRoom 4 (some .int)) { frames := 1, cells := 0, slots := 0, locals := 22 } (tp_PcW D [(cI, .int), (cZ, .boolean)] (tp_wM h a cI cZ σ) sz [.ref h, .int x1]) (tp_qW (some (.int r.1)) D (tp_wM h a cI cZ r.2) (va_A (tp_wM h a cI cZ σ) sz)) 0 0 (va_A (tp_wM h a cI cZ σ) sz) := by
  refine Met.ofW (cc := tp_bM_makeRoom) (maxL := 4) (ret := (some .int)) (by decide) rfl ?_
  intro p e s m args below meth c s₁ B hml hv
  obtain ⟨rfl, hsz, hP, hK, hD0⟩ := hv
  have hx := B.exec
  have hb := B.bytes
  have hrt := B.returns
  have hTB : ∀ w ∈ tp_TB, w.before _ s = true := fun w z => atoms_spec (ws := (tp_wsT tp_yM_makeRoom tp_bM_makeRoom 4 (some .int))) B.pre w (List.mem_cons_of_mem _ z)
  have hown : s.vm.findClass tp_RM = some m.cls := findClass_of_methodNamed B.named
  have hlocks := B.notSynchronized
  have S : CallFix p m c tp_bM_makeRoom 4 s _ tp_TB tp_RM := ⟨hx, hb, hml, hown, hTB⟩
  subst hsz
  have hD : va_D (va_A (tp_wM h a cI cZ σ) s.heap.size) (tp_wM h a cI cZ σ) := hD0.self
  have hA : ∀ q : Nat, s.heap.size ≤ q → va_A (tp_wM h a cI cZ σ) s.heap.size q := fun q z => Or.inr z
  have hS : va_S (va_A (tp_wM h a cI cZ σ) s.heap.size) s.heap s.heap [] := va_S.rf
  have hl := lv_entry ([.ref h, .int x1]) (n := 4) (Nat.le_of_ble_eq_true rfl)
  rw [lg_entry_eq]
  generalize (lg_sl ([.ref h, .int x1]) ++ List.replicate (4 - (lg_sl ([.ref h, .int x1])).length) Slot.unset).toArray = ls at hl ⊢
  have hl : lv_has ls 4 [(0, .ref h), (1, .int x1)] := hl
  rw [fM_makeRoom] at hr
  refine lv_iconst (v := 0) hx hb dM_makeRoom_0 (by decide) ?_
  refine lv_istore_n hx hb dM_makeRoom_1 rfl hl (by decide) rfl (fun ls hl => ?_)
  have hl : lv_has ls 4 [(2, .int 0), (0, .ref h), (1, .int x1)] := hl
  have loop2 : ∀ (n2 : Nat) (x2 : Int32) (σ2 : tp_St) (H : Heap) (locs : List Loc) (ls : Array Slot), fM_makeRoom_L2 x1 n2 x2 σ2 = some r → lv_has ls 4 [(0, .ref h), (1, .int x1), (2, .int x2)] → va_P D tp_CL (tp_wM h a cI cZ σ2) H → va_D (va_A (tp_wM h a cI cZ σ) s.heap.size) (tp_wM h a cI cZ σ2) → va_S (va_A (tp_wM h a cI cZ σ) s.heap.size) s.heap H locs → W p l e { frames := 1, cells := 0, slots := 0, locals := 22 } s m (([.ref h, .int x1] : List Value).toArray) below meth c H locs 0 0 (MQ below (tp_qW (some (.int r.1)) D (tp_wM h a cI cZ r.2) (va_A (tp_wM h a cI cZ σ) s.heap.size)) (([.ref h, .int x1] : List Value).toArray) s 0 0 (va_A (tp_wM h a cI cZ σ) s.heap.size)) (F0 m 2 ls []) := by
    intro n2
    induction n2 with
    | zero => intro x2 σ2 H locs ls hr hl hP hD hS; exact nomatch (show (none : Option (Int32 × tp_St)) = some r from hr)
    | succ n2 ih2 =>
      intro x2 σ2 H locs ls hr hl hP hD hS
      rw [fM_makeRoom_L2] at hr
      refine lv_iload_n hx hb dM_makeRoom_2 rfl (lv_at hl 2 rfl) ?_
      refine lv_sipush (v := 400) hx hb dM_makeRoom_3 (by decide) ?_
      refine lv_icmp_ge (tgt := 96) hx hb dM_makeRoom_6 (by decide) (fun hc1 => ?_) (fun hc1 => ?_)
      · replace hr := (if_pos hc1).symm.trans hr
        refine lv_iconst (v := (-1)) hx hb dM_makeRoom_96 (by decide) ?_
        obtain rfl := Option.some.inj hr
        exact W.iret (v := (-1)) hx hb hrt (fun t ht _ => ⟨rfl, by rw [ht]; exact hP, hS.F ht⟩) hS.2.2 dM_makeRoom_97 hlocks
      · replace hr := (if_neg hc1).symm.trans hr
        refine lv_aload_n hx hb dM_makeRoom_9 rfl (lv_at hl 0 rfl) ?_
        refine tp_gtM S hK hP 3 (by decide) (v := .ref (a 3)) tp_mM_f3 rfl dM_makeRoom_10 ?_
        refine lv_iload_n hx hb dM_makeRoom_13 rfl (lv_at hl 2 rfl) ?_
        by_cases hb2 : tp_oob x2 400
        · exact nomatch ((if_pos hb2).symm.trans hr)
        replace hr := (if_neg hb2).symm.trans hr
        refine va_zald hx hb hK hP 3 1 rfl rfl hb2 dM_makeRoom_14 ?_
        refine lv_if_eq (tgt := 90) hx hb dM_makeRoom_15 (by decide) (fun hc3 => ?_) (fun hc3 => ?_)
        · replace hr := (if_pos hc3).symm.trans hr
          refine lv_iinc (k := 2) (v := (x2 + 1)) hx hb dM_makeRoom_90 hl rfl (tp_ii1 _) (by decide) rfl (fun ls hl => ?_)
          have hl : lv_has ls 4 [(2, .int (x2 + 1)), (0, .ref h), (1, .int x1)] := hl
          refine lv_goto (tgt := 2) hx hb dM_makeRoom_93 (by decide) ?_
          exact ih2 (x2 + 1) σ2 H locs ls hr (lv_sub hl [1, 2, 0] rfl) hP hD hS
        · replace hr := (if_neg hc3).symm.trans hr
          refine lv_aload_n hx hb dM_makeRoom_18 rfl (lv_at hl 0 rfl) ?_
          refine lv_iload_n hx hb dM_makeRoom_19 rfl (lv_at hl 2 rfl) ?_
          refine lv_iload_n hx hb dM_makeRoom_20 rfl (lv_at hl 1 rfl) ?_
          obtain ⟨q4, hq5, hr⟩ := Option.bind_eq_some_iff.mp hr
          refine tp_kP (rest := []) S hK hP hD rfl rfl (cM_isOn l D h a cI cZ _ σ2 x2 x1 q4 hq5) (cwV 2 hTB tp_gM_isOn rfl rfl rfl ⟨rfl, by decide, by decide, by decide +kernel⟩ ⟨Nat.le_of_ble_eq_true rfl, Nat.le_of_ble_eq_true rfl⟩) rfl hl.1 rfl (Nat.le_of_ble_eq_true rfl) dM_makeRoom_21 ⟨Nat.zero_le _, Nat.zero_le _⟩ ?_
          refine lv_if_ne (tgt := 90) hx hb dM_makeRoom_24 (by decide) (fun hc6 => ?_) (fun hc6 => ?_)
          · replace hr := (if_neg hc6).symm.trans hr
            refine lv_iinc (k := 2) (v := (x2 + 1)) hx hb dM_makeRoom_90 hl rfl (tp_ii1 _) (by decide) rfl (fun ls hl => ?_)
            have hl : lv_has ls 4 [(2, .int (x2 + 1)), (0, .ref h), (1, .int x1)] := hl
            refine lv_goto (tgt := 2) hx hb dM_makeRoom_93 (by decide) ?_
            exact ih2 (x2 + 1) σ2 H locs ls hr (lv_sub hl [1, 2, 0] rfl) hP hD hS
          · replace hr := (if_pos hc6).symm.trans hr
            refine lv_iconst (v := 0) hx hb dM_makeRoom_27 (by decide) ?_
            refine lv_istore_n hx hb dM_makeRoom_28 rfl hl (by decide) rfl (fun ls hl => ?_)
            have hl : lv_has ls 4 [(3, .int 0), (0, .ref h), (1, .int x1), (2, .int x2)] := hl
            have loop29 : ∀ (n29 : Nat) (x3 : Int32) (σ29 : tp_St) (H : Heap) (locs : List Loc) (ls : Array Slot), fM_makeRoom_L29 (fun (σ29k : tp_St) => fM_makeRoom_L2 x1 n2 (x2 + 1) σ29k) x1 x2 n29 x3 σ29 = some r → lv_has ls 4 [(0, .ref h), (1, .int x1), (2, .int x2), (3, .int x3)] → va_P D tp_CL (tp_wM h a cI cZ σ29) H → va_D (va_A (tp_wM h a cI cZ σ) s.heap.size) (tp_wM h a cI cZ σ29) → va_S (va_A (tp_wM h a cI cZ σ) s.heap.size) s.heap H locs → W p l e { frames := 1, cells := 0, slots := 0, locals := 22 } s m (([.ref h, .int x1] : List Value).toArray) below meth c H locs 0 0 (MQ below (tp_qW (some (.int r.1)) D (tp_wM h a cI cZ r.2) (va_A (tp_wM h a cI cZ σ) s.heap.size)) (([.ref h, .int x1] : List Value).toArray) s 0 0 (va_A (tp_wM h a cI cZ σ) s.heap.size)) (F0 m 29 ls []) := by
              intro n29
              induction n29 with
              | zero => intro x3 σ29 H locs ls hr hl hP hD hS; exact nomatch (show (none : Option (Int32 × tp_St)) = some r from hr)
              | succ n29 ih29 =>
                intro x3 σ29 H locs ls hr hl hP hD hS
                rw [fM_makeRoom_L29] at hr
                refine lv_iload_n hx hb dM_makeRoom_29 rfl (lv_at hl 3 rfl) ?_
                refine lv_bipush (v := 12) hx hb dM_makeRoom_30 (by decide) ?_
                refine lv_icmp_ge (tgt := 90) hx hb dM_makeRoom_32 (by decide) (fun hc7 => ?_) (fun hc7 => ?_)
                · replace hr := (if_pos hc7).symm.trans hr
                  have hl := lv_sub hl (l' := [(0, .ref h), (1, .int x1), (2, .int x2)]) [0, 1, 2] rfl
                  refine lv_iinc (k := 2) (v := (x2 + 1)) hx hb dM_makeRoom_90 hl rfl (tp_ii1 _) (by decide) rfl (fun ls hl => ?_)
                  have hl : lv_has ls 4 [(2, .int (x2 + 1)), (0, .ref h), (1, .int x1)] := hl
                  refine lv_goto (tgt := 2) hx hb dM_makeRoom_93 (by decide) ?_
                  exact ih2 (x2 + 1) σ29 H locs ls hr (lv_sub hl [1, 2, 0] rfl) hP hD hS
                · replace hr := (if_neg hc7).symm.trans hr
                  refine lv_aload_n hx hb dM_makeRoom_35 rfl (lv_at hl 0 rfl) ?_
                  refine lv_iload_n hx hb dM_makeRoom_36 rfl (lv_at hl 2 rfl) ?_
                  refine lv_iload_n hx hb dM_makeRoom_37 rfl (lv_at hl 3 rfl) ?_
                  obtain ⟨q8, hq9, hr⟩ := Option.bind_eq_some_iff.mp hr
                  refine tp_kP (rest := []) S hK hP hD rfl rfl (cM_isOn l D h a cI cZ _ σ29 x2 x3 q8 hq9) (cwV 2 hTB tp_gM_isOn rfl rfl rfl ⟨rfl, by decide, by decide, by decide +kernel⟩ ⟨Nat.le_of_ble_eq_true rfl, Nat.le_of_ble_eq_true rfl⟩) rfl hl.1 rfl (Nat.le_of_ble_eq_true rfl) dM_makeRoom_38 ⟨Nat.zero_le _, Nat.zero_le _⟩ ?_
                  refine lv_if_eq (tgt := 84) hx hb dM_makeRoom_41 (by decide) (fun hc10 => ?_) (fun hc10 => ?_)
                  · replace hr := (if_pos hc10).symm.trans hr
                    refine lv_iinc (k := 3) (v := (x3 + 1)) hx hb dM_makeRoom_84 hl rfl (tp_ii1 _) (by decide) rfl (fun ls hl => ?_)
                    have hl : lv_has ls 4 [(3, .int (x3 + 1)), (0, .ref h), (1, .int x1), (2, .int x2)] := hl
                    refine lv_goto (tgt := 29) hx hb dM_makeRoom_87 (by decide) ?_
                    exact ih29 (x3 + 1) σ29 H locs ls hr (lv_sub hl [1, 2, 3, 0] rfl) hP hD hS
                  · replace hr := (if_neg hc10).symm.trans hr
                    refine lv_aload_n hx hb dM_makeRoom_44 rfl (lv_at hl 0 rfl) ?_
                    refine lv_iload_n hx hb dM_makeRoom_45 rfl (lv_at hl 3 rfl) ?_
                    obtain ⟨q11, hq12, hr⟩ := Option.bind_eq_some_iff.mp hr
                    refine tp_kP (rest := []) S hK hP hD rfl rfl (cM_stays l D h a cI cZ _ σ29 x3 q11 hq12) (cwV 1 hTB tp_gM_stays rfl rfl rfl ⟨rfl, by decide, by decide, by decide +kernel⟩ ⟨Nat.le_of_ble_eq_true rfl, Nat.le_of_ble_eq_true rfl⟩) rfl hl.1 rfl (Nat.le_of_ble_eq_true rfl) dM_makeRoom_46 ⟨Nat.zero_le _, Nat.zero_le _⟩ ?_
                    refine lv_if_eq (tgt := 84) hx hb dM_makeRoom_49 (by decide) (fun hc13 => ?_) (fun hc13 => ?_)
                    · replace hr := (if_pos hc13).symm.trans hr
                      refine lv_iinc (k := 3) (v := (x3 + 1)) hx hb dM_makeRoom_84 hl rfl (tp_ii1 _) (by decide) rfl (fun ls hl => ?_)
                      have hl : lv_has ls 4 [(3, .int (x3 + 1)), (0, .ref h), (1, .int x1), (2, .int x2)] := hl
                      refine lv_goto (tgt := 29) hx hb dM_makeRoom_87 (by decide) ?_
                      exact ih29 (x3 + 1) σ29 H locs ls hr (lv_sub hl [1, 2, 3, 0] rfl) hP hD hS
                    · replace hr := (if_neg hc13).symm.trans hr
                      refine lv_aload_n hx hb dM_makeRoom_52 rfl (lv_at hl 0 rfl) ?_
                      refine tp_gtM S hK hP 4 (by decide) (v := .ref (a 4)) tp_mM_f4 rfl dM_makeRoom_53 ?_
                      refine lv_iload_n hx hb dM_makeRoom_56 rfl (lv_at hl 2 rfl) ?_
                      refine lv_aload_n hx hb dM_makeRoom_57 rfl (lv_at hl 0 rfl) ?_
                      refine tp_gtM S hK hP 4 (by decide) (v := .ref (a 4)) tp_mM_f4 rfl dM_makeRoom_58 ?_
                      refine lv_iload_n hx hb dM_makeRoom_61 rfl (lv_at hl 2 rfl) ?_
                      by_cases hb14 : tp_oob x2 400
                      · exact nomatch ((if_pos hb14).symm.trans hr)
                      replace hr := (if_neg hb14).symm.trans hr
                      refine va_iald hx hb hK hP 4 0 rfl rfl hb14 dM_makeRoom_62 ?_
                      refine lv_iconst (v := 1) hx hb dM_makeRoom_63 (by decide) ?_
                      refine lv_iload_n hx hb dM_makeRoom_64 rfl (lv_at hl 3 rfl) ?_
                      refine lv_ishl hx hb dM_makeRoom_65 ?_
                      refine lv_isub hx hb dM_makeRoom_66 ?_
                      refine lv_iconst (v := 1) hx hb dM_makeRoom_67 (by decide) ?_
                      refine lv_iload_n hx hb dM_makeRoom_68 rfl (lv_at hl 1 rfl) ?_
                      refine lv_ishl hx hb dM_makeRoom_69 ?_
                      refine lv_iadd hx hb dM_makeRoom_70 ?_
                      refine tp_asM4 S hK hP hD hS hb14 dM_makeRoom_71 (fun H locs hP hD hS => ?_)
                      refine lv_aload_n hx hb dM_makeRoom_72 rfl (lv_at hl 0 rfl) ?_
                      refine lv_dup hx hb dM_makeRoom_73 rfl ?_
                      refine tp_gtM S hK hP 6 (by decide) (v := .int ((tp_up σ29 4 x2.toNatClampNeg (((σ29 4 x2.toNatClampNeg) - (1 <<< (x3 &&& 31))) + (1 <<< (x1 &&& 31)))) 6 0)) tp_mM_f6 rfl dM_makeRoom_74 ?_
                      refine lv_iconst (v := 1) hx hb dM_makeRoom_77 (by decide) ?_
                      refine lv_iadd hx hb dM_makeRoom_78 ?_
                      refine tp_ptM6 S hK hP hD hS tp_mM_f6 dM_makeRoom_79 (fun H locs hP hD hS => ?_)
                      refine lv_iload_n hx hb dM_makeRoom_82 rfl (lv_at hl 3 rfl) ?_
                      obtain rfl := Option.some.inj hr
                      exact W.iret (v := x3) hx hb hrt (fun t ht _ => ⟨rfl, by rw [ht]; exact hP, hS.F ht⟩) hS.2.2 dM_makeRoom_83 hlocks
            exact loop29 13 0 σ2 _ _ ls hr (lv_sub hl [1, 2, 3, 0] rfl) hP hD hS
  exact loop2 401 0 σ _ _ ls hr (lv_sub hl [1, 2, 0] rfl) hP hD hS
