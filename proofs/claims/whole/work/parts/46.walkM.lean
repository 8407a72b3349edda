set_option maxHeartbeats 4000000 in
set_option maxRecDepth 100000 in
theorem cM_steps (l : Launch) (D : va_G) (h : Nat) (a : Nat → Nat) (cI cZ : ClassId) (sz : Nat) (σ : tp_St) (x1 : Int32) (r : (Int32 × tp_St)) (hr : fM_steps σ x1 = some r) : Met l tp_yM_steps (tp_wsT tp_yM_steps tp_bM_steps 4 (some .int)) { frames := 6, cells := 0, slots := 0, locals := 136 } (tp_PcW D [(cI, .int), (cZ, .boolean)] (tp_wM h a cI cZ σ) sz [.ref h, .int x1]) (tp_qW (some (.int r.1)) D (tp_wM h a cI cZ r.2) (va_A (tp_wM h a cI cZ σ) sz)) 0 0 (va_A (tp_wM h a cI cZ σ) sz) := by
  refine Met.ofW (cc := tp_bM_steps) (maxL := 4) (ret := (some .int)) (by decide) rfl ?_
  intro p e s m args below meth c s₁ B hml hv
  obtain ⟨rfl, hsz, hP, hK, hD0⟩ := hv
  have hx := B.exec
  have hb := B.bytes
  have hrt := B.returns
  have hTB : ∀ w ∈ tp_TB, w.before _ s = true := fun w z => atoms_spec (ws := (tp_wsT tp_yM_steps tp_bM_steps 4 (some .int))) B.pre w (List.mem_cons_of_mem _ z)
  have hown : s.vm.findClass tp_RM = some m.cls := findClass_of_methodNamed B.named
  have hlocks := B.notSynchronized
  have S : CallFix p m c tp_bM_steps 4 s _ tp_TB tp_RM := ⟨hx, hb, hml, hown, hTB⟩
  subst hsz
  have hD : va_D (va_A (tp_wM h a cI cZ σ) s.heap.size) (tp_wM h a cI cZ σ) := hD0.self
  have hA : ∀ q : Nat, s.heap.size ≤ q → va_A (tp_wM h a cI cZ σ) s.heap.size q := fun q z => Or.inr z
  have hS : va_S (va_A (tp_wM h a cI cZ σ) s.heap.size) s.heap s.heap [] := va_S.rf
  have hl := lv_entry ([.ref h, .int x1]) (n := 4) (Nat.le_of_ble_eq_true rfl)
  rw [lg_entry_eq]
  generalize (lg_sl ([.ref h, .int x1]) ++ List.replicate (4 - (lg_sl ([.ref h, .int x1])).length) Slot.unset).toArray = ls at hl ⊢
  have hl : lv_has ls 4 [(0, .ref h), (1, .int x1)] := hl
  rw [fM_steps] at hr
  refine lv_aload_n hx hb dM_steps_0 rfl (lv_at hl 0 rfl) ?_
  refine lv_iload_n hx hb dM_steps_1 rfl (lv_at hl 1 rfl) ?_
  refine lv_if_ge (tgt := 9) hx hb dM_steps_2 (by decide) (fun hc1 => ?_) (fun hc1 => ?_)
  · replace hr := (if_pos hc1).symm.trans hr
    refine lv_iconst (v := 0) hx hb dM_steps_9 (by decide) ?_
    refine tp_ptM0 S hK hP hD hS tp_mM_f0 dM_steps_10 (fun H locs hP hD hS => ?_)
    refine lv_iconst (v := 0) hx hb dM_steps_13 (by decide) ?_
    refine lv_istore_n hx hb dM_steps_14 rfl hl (by decide) rfl (fun ls hl => ?_)
    have hl : lv_has ls 4 [(2, .int 0), (0, .ref h), (1, .int x1)] := hl
    refine lv_iload_n hx hb dM_steps_15 rfl (lv_at hl 2 rfl) ?_
    refine lv_if_le (tgt := 23) hx hb dM_steps_16 (by decide) (fun hc2 => ?_) (fun hc2 => ?_)
    · replace hr := (if_pos hc2).symm.trans hr
      refine lv_iconst (v := 0) hx hb dM_steps_23 (by decide) ?_
      refine lv_istore_n hx hb dM_steps_24 rfl hl (by decide) rfl (fun ls hl => ?_)
      have hl : lv_has ls 4 [(3, .int 0), (2, .int 0), (0, .ref h), (1, .int x1)] := hl
      have loop25 : ∀ (n25 : Nat) (x2 : Int32) (x3 : Int32) (σ25 : tp_St) (H : Heap) (locs : List Loc) (ls : Array Slot), fM_steps_L25 x1 n25 x2 x3 σ25 = some r → lv_has ls 4 [(0, .ref h), (1, .int x1), (2, .int x2), (3, .int x3)] → va_P D tp_CL (tp_wM h a cI cZ σ25) H → va_D (va_A (tp_wM h a cI cZ σ) s.heap.size) (tp_wM h a cI cZ σ25) → va_S (va_A (tp_wM h a cI cZ σ) s.heap.size) s.heap H locs → W p l e { frames := 6, cells := 0, slots := 0, locals := 136 } s m (([.ref h, .int x1] : List Value).toArray) below meth c H locs 0 0 (MQ below (tp_qW (some (.int r.1)) D (tp_wM h a cI cZ r.2) (va_A (tp_wM h a cI cZ σ) s.heap.size)) (([.ref h, .int x1] : List Value).toArray) s 0 0 (va_A (tp_wM h a cI cZ σ) s.heap.size)) (F0 m 25 ls []) := by
        intro n25
        induction n25 with
        | zero => intro x2 x3 σ25 H locs ls hr hl hP hD hS; exact nomatch (show (none : Option (Int32 × tp_St)) = some r from hr)
        | succ n25 ih25 =>
          intro x2 x3 σ25 H locs ls hr hl hP hD hS
          rw [fM_steps_L25] at hr
          refine lv_iload_n hx hb dM_steps_25 rfl (lv_at hl 3 rfl) ?_
          refine lv_if_eq (tgt := 72) hx hb dM_steps_26 (by decide) (fun hc3 => ?_) (fun hc3 => ?_)
          · replace hr := (if_pos hc3).symm.trans hr
            refine lv_iload_n hx hb dM_steps_72 rfl (lv_at hl 2 rfl) ?_
            obtain rfl := Option.some.inj hr
            exact W.iret (v := x2) hx hb hrt (fun t ht _ => ⟨rfl, by rw [ht]; exact hP, hS.F ht⟩) hS.2.2 dM_steps_73 hlocks
          · replace hr := (if_neg hc3).symm.trans hr
            refine lv_aload_n hx hb dM_steps_29 rfl (lv_at hl 0 rfl) ?_
            obtain ⟨q4, hq5, hr⟩ := Option.bind_eq_some_iff.mp hr
            refine tp_kV (rest := []) S hK hP hD hS hA rfl rfl (cM_doStep l D h a cI cZ _ σ25  q4 hq5) (cwV 0 hTB tp_gM_doStep rfl rfl rfl ⟨rfl, by decide, by decide, by decide +kernel⟩ ⟨Nat.le_of_ble_eq_true rfl, Nat.le_of_ble_eq_true rfl⟩) rfl hl.1 rfl (Nat.le_of_ble_eq_true rfl) dM_steps_30 ⟨Nat.zero_le _, Nat.zero_le _⟩ (fun H locs hP hS => ?_)
            have hP : va_P D tp_CL (tp_wM h a cI cZ q4.2) H := hP
            have hD : va_D (va_A (tp_wM h a cI cZ σ) s.heap.size) (tp_wM h a cI cZ q4.2) := tp_dre hD tp_wM_fst
            refine lv_if_le (tgt := 40) hx hb dM_steps_33 (by decide) (fun hc6 => ?_) (fun hc6 => ?_)
            · replace hr := (if_pos hc6).symm.trans hr
              refine lv_iconst (v := 0) hx hb dM_steps_40 (by decide) ?_
              refine lv_istore_n hx hb dM_steps_41 rfl hl (by decide) rfl (fun ls hl => ?_)
              have hl : lv_has ls 4 [(3, .int 0), (0, .ref h), (1, .int x1), (2, .int x2)] := hl
              refine lv_iload_n hx hb dM_steps_42 rfl (lv_at hl 0 rfl) ?_
              refine lv_if_eq (tgt := 52) hx hb dM_steps_43 (by decide) (fun _ => ?_) (fun z => absurd (by decide) z)
              refine lv_iload_n hx hb dM_steps_52 rfl (lv_at hl 3 rfl) ?_
              refine lv_istore_n hx hb dM_steps_53 rfl hl (by decide) rfl (fun ls hl => ?_)
              have hl : lv_has ls 4 [(2, .int x2), (3, .int 0), (0, .ref h), (1, .int x1)] := hl
              refine lv_iload_n hx hb dM_steps_54 rfl (lv_at hl 1 rfl) ?_
              refine lv_if_eq (tgt := 67) hx hb dM_steps_55 (by decide) (fun _ => ?_) (fun z => absurd (by decide) z)
              refine lv_iconst (v := 0) hx hb dM_steps_67 (by decide) ?_
              refine lv_istore_n hx hb dM_steps_68 rfl hl (by decide) rfl (fun ls hl => ?_)
              have hl : lv_has ls 4 [(3, .int 0), (2, .int x2), (0, .ref h), (1, .int x1)] := hl
              refine lv_goto (tgt := 25) hx hb dM_steps_69 (by decide) ?_
              exact ih25 x2 0 q4.2 H locs ls hr (lv_sub hl [2, 3, 1, 0] rfl) hP hD hS
            · replace hr := (if_neg hc6).symm.trans hr
              refine lv_iconst (v := 1) hx hb dM_steps_36 (by decide) ?_
              refine lv_goto (tgt := 41) hx hb dM_steps_37 (by decide) ?_
              refine lv_istore_n hx hb dM_steps_41 rfl hl (by decide) rfl (fun ls hl => ?_)
              have hl : lv_has ls 4 [(3, .int 1), (0, .ref h), (1, .int x1), (2, .int x2)] := hl
              refine lv_iload_n hx hb dM_steps_42 rfl (lv_at hl 0 rfl) ?_
              refine lv_if_eq (tgt := 52) hx hb dM_steps_43 (by decide) (fun z => absurd z (by decide)) (fun _ => ?_)
              refine lv_iload_n hx hb dM_steps_46 rfl (lv_at hl 3 rfl) ?_
              refine lv_iconst (v := 1) hx hb dM_steps_47 (by decide) ?_
              refine lv_iadd hx hb dM_steps_48 ?_
              refine lv_goto (tgt := 53) hx hb dM_steps_49 (by decide) ?_
              refine lv_istore_n hx hb dM_steps_53 rfl hl (by decide) rfl (fun ls hl => ?_)
              have hl : lv_has ls 4 [(2, .int (x2 + 1)), (3, .int 1), (0, .ref h), (1, .int x1)] := hl
              refine lv_iload_n hx hb dM_steps_54 rfl (lv_at hl 1 rfl) ?_
              refine lv_if_eq (tgt := 67) hx hb dM_steps_55 (by decide) (fun z => absurd z (by decide)) (fun _ => ?_)
              refine lv_iload_n hx hb dM_steps_58 rfl (lv_at hl 0 rfl) ?_
              refine lv_iload_n hx hb dM_steps_59 rfl (lv_at hl 3 rfl) ?_
              refine lv_icmp_ge (tgt := 67) hx hb dM_steps_60 (by decide) (fun hc7 => ?_) (fun hc7 => ?_)
              · replace hr := (if_pos hc7).symm.trans hr
                refine lv_iconst (v := 0) hx hb dM_steps_67 (by decide) ?_
                refine lv_istore_n hx hb dM_steps_68 rfl hl (by decide) rfl (fun ls hl => ?_)
                have hl : lv_has ls 4 [(3, .int 0), (2, .int (x2 + 1)), (0, .ref h), (1, .int x1)] := hl
                refine lv_goto (tgt := 25) hx hb dM_steps_69 (by decide) ?_
                exact ih25 (x2 + 1) 0 q4.2 H locs ls hr (lv_sub hl [2, 3, 1, 0] rfl) hP hD hS
              · replace hr := (if_neg hc7).symm.trans hr
                refine lv_iconst (v := 1) hx hb dM_steps_63 (by decide) ?_
                refine lv_goto (tgt := 68) hx hb dM_steps_64 (by decide) ?_
                refine lv_istore_n hx hb dM_steps_68 rfl hl (by decide) rfl (fun ls hl => ?_)
                have hl : lv_has ls 4 [(3, .int 1), (2, .int (x2 + 1)), (0, .ref h), (1, .int x1)] := hl
                refine lv_goto (tgt := 25) hx hb dM_steps_69 (by decide) ?_
                exact ih25 (x2 + 1) 1 q4.2 H locs ls hr (lv_sub hl [2, 3, 1, 0] rfl) hP hD hS
      exact loop25 1000001 0 0 (tp_up σ 0 0 0) _ _ ls hr (lv_sub hl [2, 3, 1, 0] rfl) hP hD hS
    · replace hr := (if_neg hc2).symm.trans hr
      refine lv_iconst (v := 1) hx hb dM_steps_19 (by decide) ?_
      refine lv_goto (tgt := 24) hx hb dM_steps_20 (by decide) ?_
      refine lv_istore_n hx hb dM_steps_24 rfl hl (by decide) rfl (fun ls hl => ?_)
      have hl : lv_has ls 4 [(3, .int 1), (2, .int 0), (0, .ref h), (1, .int x1)] := hl
      have loop25 : ∀ (n25 : Nat) (x2 : Int32) (x3 : Int32) (σ25 : tp_St) (H : Heap) (locs : List Loc) (ls : Array Slot), fM_steps_L25 x1 n25 x2 x3 σ25 = some r → lv_has ls 4 [(0, .ref h), (1, .int x1), (2, .int x2), (3, .int x3)] → va_P D tp_CL (tp_wM h a cI cZ σ25) H → va_D (va_A (tp_wM h a cI cZ σ) s.heap.size) (tp_wM h a cI cZ σ25) → va_S (va_A (tp_wM h a cI cZ σ) s.heap.size) s.heap H locs → W p l e { frames := 6, cells := 0, slots := 0, locals := 136 } s m (([.ref h, .int x1] : List Value).toArray) below meth c H locs 0 0 (MQ below (tp_qW (some (.int r.1)) D (tp_wM h a cI cZ r.2) (va_A (tp_wM h a cI cZ σ) s.heap.size)) (([.ref h, .int x1] : List Value).toArray) s 0 0 (va_A (tp_wM h a cI cZ σ) s.heap.size)) (F0 m 25 ls []) := by
        intro n25
        induction n25 with
        | zero => intro x2 x3 σ25 H locs ls hr hl hP hD hS; exact nomatch (show (none : Option (Int32 × tp_St)) = some r from hr)
        | succ n25 ih25 =>
          intro x2 x3 σ25 H locs ls hr hl hP hD hS
          rw [fM_steps_L25] at hr
          refine lv_iload_n hx hb dM_steps_25 rfl (lv_at hl 3 rfl) ?_
          refine lv_if_eq (tgt := 72) hx hb dM_steps_26 (by decide) (fun hc8 => ?_) (fun hc8 => ?_)
          · replace hr := (if_pos hc8).symm.trans hr
            refine lv_iload_n hx hb dM_steps_72 rfl (lv_at hl 2 rfl) ?_
            obtain rfl := Option.some.inj hr
            exact W.iret (v := x2) hx hb hrt (fun t ht _ => ⟨rfl, by rw [ht]; exact hP, hS.F ht⟩) hS.2.2 dM_steps_73 hlocks
          · replace hr := (if_neg hc8).symm.trans hr
            refine lv_aload_n hx hb dM_steps_29 rfl (lv_at hl 0 rfl) ?_
            obtain ⟨q9, hq10, hr⟩ := Option.bind_eq_some_iff.mp hr
            refine tp_kV (rest := []) S hK hP hD hS hA rfl rfl (cM_doStep l D h a cI cZ _ σ25  q9 hq10) (cwV 0 hTB tp_gM_doStep rfl rfl rfl ⟨rfl, by decide, by decide, by decide +kernel⟩ ⟨Nat.le_of_ble_eq_true rfl, Nat.le_of_ble_eq_true rfl⟩) rfl hl.1 rfl (Nat.le_of_ble_eq_true rfl) dM_steps_30 ⟨Nat.zero_le _, Nat.zero_le _⟩ (fun H locs hP hS => ?_)
            have hP : va_P D tp_CL (tp_wM h a cI cZ q9.2) H := hP
            have hD : va_D (va_A (tp_wM h a cI cZ σ) s.heap.size) (tp_wM h a cI cZ q9.2) := tp_dre hD tp_wM_fst
            refine lv_if_le (tgt := 40) hx hb dM_steps_33 (by decide) (fun hc11 => ?_) (fun hc11 => ?_)
            · replace hr := (if_pos hc11).symm.trans hr
              refine lv_iconst (v := 0) hx hb dM_steps_40 (by decide) ?_
              refine lv_istore_n hx hb dM_steps_41 rfl hl (by decide) rfl (fun ls hl => ?_)
              have hl : lv_has ls 4 [(3, .int 0), (0, .ref h), (1, .int x1), (2, .int x2)] := hl
              refine lv_iload_n hx hb dM_steps_42 rfl (lv_at hl 0 rfl) ?_
              refine lv_if_eq (tgt := 52) hx hb dM_steps_43 (by decide) (fun _ => ?_) (fun z => absurd (by decide) z)
              refine lv_iload_n hx hb dM_steps_52 rfl (lv_at hl 3 rfl) ?_
              refine lv_istore_n hx hb dM_steps_53 rfl hl (by decide) rfl (fun ls hl => ?_)
              have hl : lv_has ls 4 [(2, .int x2), (3, .int 0), (0, .ref h), (1, .int x1)] := hl
              refine lv_iload_n hx hb dM_steps_54 rfl (lv_at hl 1 rfl) ?_
              refine lv_if_eq (tgt := 67) hx hb dM_steps_55 (by decide) (fun _ => ?_) (fun z => absurd (by decide) z)
              refine lv_iconst (v := 0) hx hb dM_steps_67 (by decide) ?_
              refine lv_istore_n hx hb dM_steps_68 rfl hl (by decide) rfl (fun ls hl => ?_)
              have hl : lv_has ls 4 [(3, .int 0), (2, .int x2), (0, .ref h), (1, .int x1)] := hl
              refine lv_goto (tgt := 25) hx hb dM_steps_69 (by decide) ?_
              exact ih25 x2 0 q9.2 H locs ls hr (lv_sub hl [2, 3, 1, 0] rfl) hP hD hS
            · replace hr := (if_neg hc11).symm.trans hr
              refine lv_iconst (v := 1) hx hb dM_steps_36 (by decide) ?_
              refine lv_goto (tgt := 41) hx hb dM_steps_37 (by decide) ?_
              refine lv_istore_n hx hb dM_steps_41 rfl hl (by decide) rfl (fun ls hl => ?_)
              have hl : lv_has ls 4 [(3, .int 1), (0, .ref h), (1, .int x1), (2, .int x2)] := hl
              refine lv_iload_n hx hb dM_steps_42 rfl (lv_at hl 0 rfl) ?_
              refine lv_if_eq (tgt := 52) hx hb dM_steps_43 (by decide) (fun z => absurd z (by decide)) (fun _ => ?_)
              refine lv_iload_n hx hb dM_steps_46 rfl (lv_at hl 3 rfl) ?_
              refine lv_iconst (v := 1) hx hb dM_steps_47 (by decide) ?_
              refine lv_iadd hx hb dM_steps_48 ?_
              refine lv_goto (tgt := 53) hx hb dM_steps_49 (by decide) ?_
              refine lv_istore_n hx hb dM_steps_53 rfl hl (by decide) rfl (fun ls hl => ?_)
              have hl : lv_has ls 4 [(2, .int (x2 + 1)), (3, .int 1), (0, .ref h), (1, .int x1)] := hl
              refine lv_iload_n hx hb dM_steps_54 rfl (lv_at hl 1 rfl) ?_
              refine lv_if_eq (tgt := 67) hx hb dM_steps_55 (by decide) (fun z => absurd z (by decide)) (fun _ => ?_)
              refine lv_iload_n hx hb dM_steps_58 rfl (lv_at hl 0 rfl) ?_
              refine lv_iload_n hx hb dM_steps_59 rfl (lv_at hl 3 rfl) ?_
              refine lv_icmp_ge (tgt := 67) hx hb dM_steps_60 (by decide) (fun hc12 => ?_) (fun hc12 => ?_)
              · replace hr := (if_pos hc12).symm.trans hr
                refine lv_iconst (v := 0) hx hb dM_steps_67 (by decide) ?_
                refine lv_istore_n hx hb dM_steps_68 rfl hl (by decide) rfl (fun ls hl => ?_)
                have hl : lv_has ls 4 [(3, .int 0), (2, .int (x2 + 1)), (0, .ref h), (1, .int x1)] := hl
                refine lv_goto (tgt := 25) hx hb dM_steps_69 (by decide) ?_
                exact ih25 (x2 + 1) 0 q9.2 H locs ls hr (lv_sub hl [2, 3, 1, 0] rfl) hP hD hS
              · replace hr := (if_neg hc12).symm.trans hr
                refine lv_iconst (v := 1) hx hb dM_steps_63 (by decide) ?_
                refine lv_goto (tgt := 68) hx hb dM_steps_64 (by decide) ?_
                refine lv_istore_n hx hb dM_steps_68 rfl hl (by decide) rfl (fun ls hl => ?_)
                have hl : lv_has ls 4 [(3, .int 1), (2, .int (x2 + 1)), (0, .ref h), (1, .int x1)] := hl
                refine lv_goto (tgt := 25) hx hb dM_steps_69 (by decide) ?_
                exact ih25 (x2 + 1) 1 q9.2 H locs ls hr (lv_sub hl [2, 3, 1, 0] rfl) hP hD hS
      exact loop25 1000001 0 1 (tp_up σ 0 0 0) _ _ ls hr (lv_sub hl [2, 3, 1, 0] rfl) hP hD hS
  · replace hr := (if_neg hc1).symm.trans hr
    refine lv_iconst (v := 1) hx hb dM_steps_5 (by decide) ?_
    refine lv_goto (tgt := 10) hx hb dM_steps_6 (by decide) ?_
    refine tp_ptM0 S hK hP hD hS tp_mM_f0 dM_steps_10 (fun H locs hP hD hS => ?_)
    refine lv_iconst (v := 0) hx hb dM_steps_13 (by decide) ?_
    refine lv_istore_n hx hb dM_steps_14 rfl hl (by decide) rfl (fun ls hl => ?_)
    have hl : lv_has ls 4 [(2, .int 0), (0, .ref h), (1, .int x1)] := hl
    refine lv_iload_n hx hb dM_steps_15 rfl (lv_at hl 2 rfl) ?_
    refine lv_if_le (tgt := 23) hx hb dM_steps_16 (by decide) (fun hc13 => ?_) (fun hc13 => ?_)
    · replace hr := (if_pos hc13).symm.trans hr
      refine lv_iconst (v := 0) hx hb dM_steps_23 (by decide) ?_
      refine lv_istore_n hx hb dM_steps_24 rfl hl (by decide) rfl (fun ls hl => ?_)
      have hl : lv_has ls 4 [(3, .int 0), (2, .int 0), (0, .ref h), (1, .int x1)] := hl
      have loop25 : ∀ (n25 : Nat) (x2 : Int32) (x3 : Int32) (σ25 : tp_St) (H : Heap) (locs : List Loc) (ls : Array Slot), fM_steps_L25 x1 n25 x2 x3 σ25 = some r → lv_has ls 4 [(0, .ref h), (1, .int x1), (2, .int x2), (3, .int x3)] → va_P D tp_CL (tp_wM h a cI cZ σ25) H → va_D (va_A (tp_wM h a cI cZ σ) s.heap.size) (tp_wM h a cI cZ σ25) → va_S (va_A (tp_wM h a cI cZ σ) s.heap.size) s.heap H locs → W p l e { frames := 6, cells := 0, slots := 0, locals := 136 } s m (([.ref h, .int x1] : List Value).toArray) below meth c H locs 0 0 (MQ below (tp_qW (some (.int r.1)) D (tp_wM h a cI cZ r.2) (va_A (tp_wM h a cI cZ σ) s.heap.size)) (([.ref h, .int x1] : List Value).toArray) s 0 0 (va_A (tp_wM h a cI cZ σ) s.heap.size)) (F0 m 25 ls []) := by
        intro n25
        induction n25 with
        | zero => intro x2 x3 σ25 H locs ls hr hl hP hD hS; exact nomatch (show (none : Option (Int32 × tp_St)) = some r from hr)
        | succ n25 ih25 =>
          intro x2 x3 σ25 H locs ls hr hl hP hD hS
          rw [fM_steps_L25] at hr
          refine lv_iload_n hx hb dM_steps_25 rfl (lv_at hl 3 rfl) ?_
          refine lv_if_eq (tgt := 72) hx hb dM_steps_26 (by decide) (fun hc14 => ?_) (fun hc14 => ?_)
          · replace hr := (if_pos hc14).symm.trans hr
            refine lv_iload_n hx hb dM_steps_72 rfl (lv_at hl 2 rfl) ?_
            obtain rfl := Option.some.inj hr
            exact W.iret (v := x2) hx hb hrt (fun t ht _ => ⟨rfl, by rw [ht]; exact hP, hS.F ht⟩) hS.2.2 dM_steps_73 hlocks
          · replace hr := (if_neg hc14).symm.trans hr
            refine lv_aload_n hx hb dM_steps_29 rfl (lv_at hl 0 rfl) ?_
            obtain ⟨q15, hq16, hr⟩ := Option.bind_eq_some_iff.mp hr
            refine tp_kV (rest := []) S hK hP hD hS hA rfl rfl (cM_doStep l D h a cI cZ _ σ25  q15 hq16) (cwV 0 hTB tp_gM_doStep rfl rfl rfl ⟨rfl, by decide, by decide, by decide +kernel⟩ ⟨Nat.le_of_ble_eq_true rfl, Nat.le_of_ble_eq_true rfl⟩) rfl hl.1 rfl (Nat.le_of_ble_eq_true rfl) dM_steps_30 ⟨Nat.zero_le _, Nat.zero_le _⟩ (fun H locs hP hS => ?_)
            have hP : va_P D tp_CL (tp_wM h a cI cZ q15.2) H := hP
            have hD : va_D (va_A (tp_wM h a cI cZ σ) s.heap.size) (tp_wM h a cI cZ q15.2) := tp_dre hD tp_wM_fst
            refine lv_if_le (tgt := 40) hx hb dM_steps_33 (by decide) (fun hc17 => ?_) (fun hc17 => ?_)
            · replace hr := (if_pos hc17).symm.trans hr
              refine lv_iconst (v := 0) hx hb dM_steps_40 (by decide) ?_
              refine lv_istore_n hx hb dM_steps_41 rfl hl (by decide) rfl (fun ls hl => ?_)
              have hl : lv_has ls 4 [(3, .int 0), (0, .ref h), (1, .int x1), (2, .int x2)] := hl
              refine lv_iload_n hx hb dM_steps_42 rfl (lv_at hl 0 rfl) ?_
              refine lv_if_eq (tgt := 52) hx hb dM_steps_43 (by decide) (fun _ => ?_) (fun z => absurd (by decide) z)
              refine lv_iload_n hx hb dM_steps_52 rfl (lv_at hl 3 rfl) ?_
              refine lv_istore_n hx hb dM_steps_53 rfl hl (by decide) rfl (fun ls hl => ?_)
              have hl : lv_has ls 4 [(2, .int x2), (3, .int 0), (0, .ref h), (1, .int x1)] := hl
              refine lv_iload_n hx hb dM_steps_54 rfl (lv_at hl 1 rfl) ?_
              refine lv_if_eq (tgt := 67) hx hb dM_steps_55 (by decide) (fun _ => ?_) (fun z => absurd (by decide) z)
              refine lv_iconst (v := 0) hx hb dM_steps_67 (by decide) ?_
              refine lv_istore_n hx hb dM_steps_68 rfl hl (by decide) rfl (fun ls hl => ?_)
              have hl : lv_has ls 4 [(3, .int 0), (2, .int x2), (0, .ref h), (1, .int x1)] := hl
              refine lv_goto (tgt := 25) hx hb dM_steps_69 (by decide) ?_
              exact ih25 x2 0 q15.2 H locs ls hr (lv_sub hl [2, 3, 1, 0] rfl) hP hD hS
            · replace hr := (if_neg hc17).symm.trans hr
              refine lv_iconst (v := 1) hx hb dM_steps_36 (by decide) ?_
              refine lv_goto (tgt := 41) hx hb dM_steps_37 (by decide) ?_
              refine lv_istore_n hx hb dM_steps_41 rfl hl (by decide) rfl (fun ls hl => ?_)
              have hl : lv_has ls 4 [(3, .int 1), (0, .ref h), (1, .int x1), (2, .int x2)] := hl
              refine lv_iload_n hx hb dM_steps_42 rfl (lv_at hl 0 rfl) ?_
              refine lv_if_eq (tgt := 52) hx hb dM_steps_43 (by decide) (fun z => absurd z (by decide)) (fun _ => ?_)
              refine lv_iload_n hx hb dM_steps_46 rfl (lv_at hl 3 rfl) ?_
              refine lv_iconst (v := 1) hx hb dM_steps_47 (by decide) ?_
              refine lv_iadd hx hb dM_steps_48 ?_
              refine lv_goto (tgt := 53) hx hb dM_steps_49 (by decide) ?_
              refine lv_istore_n hx hb dM_steps_53 rfl hl (by decide) rfl (fun ls hl => ?_)
              have hl : lv_has ls 4 [(2, .int (x2 + 1)), (3, .int 1), (0, .ref h), (1, .int x1)] := hl
              refine lv_iload_n hx hb dM_steps_54 rfl (lv_at hl 1 rfl) ?_
              refine lv_if_eq (tgt := 67) hx hb dM_steps_55 (by decide) (fun z => absurd z (by decide)) (fun _ => ?_)
              refine lv_iload_n hx hb dM_steps_58 rfl (lv_at hl 0 rfl) ?_
              refine lv_iload_n hx hb dM_steps_59 rfl (lv_at hl 3 rfl) ?_
              refine lv_icmp_ge (tgt := 67) hx hb dM_steps_60 (by decide) (fun hc18 => ?_) (fun hc18 => ?_)
              · replace hr := (if_pos hc18).symm.trans hr
                refine lv_iconst (v := 0) hx hb dM_steps_67 (by decide) ?_
                refine lv_istore_n hx hb dM_steps_68 rfl hl (by decide) rfl (fun ls hl => ?_)
                have hl : lv_has ls 4 [(3, .int 0), (2, .int (x2 + 1)), (0, .ref h), (1, .int x1)] := hl
                refine lv_goto (tgt := 25) hx hb dM_steps_69 (by decide) ?_
                exact ih25 (x2 + 1) 0 q15.2 H locs ls hr (lv_sub hl [2, 3, 1, 0] rfl) hP hD hS
              · replace hr := (if_neg hc18).symm.trans hr
                refine lv_iconst (v := 1) hx hb dM_steps_63 (by decide) ?_
                refine lv_goto (tgt := 68) hx hb dM_steps_64 (by decide) ?_
                refine lv_istore_n hx hb dM_steps_68 rfl hl (by decide) rfl (fun ls hl => ?_)
                have hl : lv_has ls 4 [(3, .int 1), (2, .int (x2 + 1)), (0, .ref h), (1, .int x1)] := hl
                refine lv_goto (tgt := 25) hx hb dM_steps_69 (by decide) ?_
                exact ih25 (x2 + 1) 1 q15.2 H locs ls hr (lv_sub hl [2, 3, 1, 0] rfl) hP hD hS
      exact loop25 1000001 0 0 (tp_up σ 0 0 1) _ _ ls hr (lv_sub hl [2, 3, 1, 0] rfl) hP hD hS
    · replace hr := (if_neg hc13).symm.trans hr
      refine lv_iconst (v := 1) hx hb dM_steps_19 (by decide) ?_
      refine lv_goto (tgt := 24) hx hb dM_steps_20 (by decide) ?_
      refine lv_istore_n hx hb dM_steps_24 rfl hl (by decide) rfl (fun ls hl => ?_)
      have hl : lv_has ls 4 [(3, .int 1), (2, .int 0), (0, .ref h), (1, .int x1)] := hl
      have loop25 : ∀ (n25 : Nat) (x2 : Int32) (x3 : Int32) (σ25 : tp_St) (H : Heap) (locs : List Loc) (ls : Array Slot), fM_steps_L25 x1 n25 x2 x3 σ25 = some r → lv_has ls 4 [(0, .ref h), (1, .int x1), (2, .int x2), (3, .int x3)] → va_P D tp_CL (tp_wM h a cI cZ σ25) H → va_D (va_A (tp_wM h a cI cZ σ) s.heap.size) (tp_wM h a cI cZ σ25) → va_S (va_A (tp_wM h a cI cZ σ) s.heap.size) s.heap H locs → W p l e { frames := 6, cells := 0, slots := 0, locals := 136 } s m (([.ref h, .int x1] : List Value).toArray) below meth c H locs 0 0 (MQ below (tp_qW (some (.int r.1)) D (tp_wM h a cI cZ r.2) (va_A (tp_wM h a cI cZ σ) s.heap.size)) (([.ref h, .int x1] : List Value).toArray) s 0 0 (va_A (tp_wM h a cI cZ σ) s.heap.size)) (F0 m 25 ls []) := by
        intro n25
        induction n25 with
        | zero => intro x2 x3 σ25 H locs ls hr hl hP hD hS; exact nomatch (show (none : Option (Int32 × tp_St)) = some r from hr)
        | succ n25 ih25 =>
          intro x2 x3 σ25 H locs ls hr hl hP hD hS
          rw [fM_steps_L25] at hr
          refine lv_iload_n hx hb dM_steps_25 rfl (lv_at hl 3 rfl) ?_
          refine lv_if_eq (tgt := 72) hx hb dM_steps_26 (by decide) (fun hc19 => ?_) (fun hc19 => ?_)
          · replace hr := (if_pos hc19).symm.trans hr
            refine lv_iload_n hx hb dM_steps_72 rfl (lv_at hl 2 rfl) ?_
            obtain rfl := Option.some.inj hr
            exact W.iret (v := x2) hx hb hrt (fun t ht _ => ⟨rfl, by rw [ht]; exact hP, hS.F ht⟩) hS.2.2 dM_steps_73 hlocks
          · replace hr := (if_neg hc19).symm.trans hr
            refine lv_aload_n hx hb dM_steps_29 rfl (lv_at hl 0 rfl) ?_
            obtain ⟨q20, hq21, hr⟩ := Option.bind_eq_some_iff.mp hr
            refine tp_kV (rest := []) S hK hP hD hS hA rfl rfl (cM_doStep l D h a cI cZ _ σ25  q20 hq21) (cwV 0 hTB tp_gM_doStep rfl rfl rfl ⟨rfl, by decide, by decide, by decide +kernel⟩ ⟨Nat.le_of_ble_eq_true rfl, Nat.le_of_ble_eq_true rfl⟩) rfl hl.1 rfl (Nat.le_of_ble_eq_true rfl) dM_steps_30 ⟨Nat.zero_le _, Nat.zero_le _⟩ (fun H locs hP hS => ?_)
            have hP : va_P D tp_CL (tp_wM h a cI cZ q20.2) H := hP
            have hD : va_D (va_A (tp_wM h a cI cZ σ) s.heap.size) (tp_wM h a cI cZ q20.2) := tp_dre hD tp_wM_fst
            refine lv_if_le (tgt := 40) hx hb dM_steps_33 (by decide) (fun hc22 => ?_) (fun hc22 => ?_)
            · replace hr := (if_pos hc22).symm.trans hr
              refine lv_iconst (v := 0) hx hb dM_steps_40 (by decide) ?_
              refine lv_istore_n hx hb dM_steps_41 rfl hl (by decide) rfl (fun ls hl => ?_)
              have hl : lv_has ls 4 [(3, .int 0), (0, .ref h), (1, .int x1), (2, .int x2)] := hl
              refine lv_iload_n hx hb dM_steps_42 rfl (lv_at hl 0 rfl) ?_
              refine lv_if_eq (tgt := 52) hx hb dM_steps_43 (by decide) (fun _ => ?_) (fun z => absurd (by decide) z)
              refine lv_iload_n hx hb dM_steps_52 rfl (lv_at hl 3 rfl) ?_
              refine lv_istore_n hx hb dM_steps_53 rfl hl (by decide) rfl (fun ls hl => ?_)
              have hl : lv_has ls 4 [(2, .int x2), (3, .int 0), (0, .ref h), (1, .int x1)] := hl
              refine lv_iload_n hx hb dM_steps_54 rfl (lv_at hl 1 rfl) ?_
              refine lv_if_eq (tgt := 67) hx hb dM_steps_55 (by decide) (fun _ => ?_) (fun z => absurd (by decide) z)
              refine lv_iconst (v := 0) hx hb dM_steps_67 (by decide) ?_
              refine lv_istore_n hx hb dM_steps_68 rfl hl (by decide) rfl (fun ls hl => ?_)
              have hl : lv_has ls 4 [(3, .int 0), (2, .int x2), (0, .ref h), (1, .int x1)] := hl
              refine lv_goto (tgt := 25) hx hb dM_steps_69 (by decide) ?_
              exact ih25 x2 0 q20.2 H locs ls hr (lv_sub hl [2, 3, 1, 0] rfl) hP hD hS
            · replace hr := (if_neg hc22).symm.trans hr
              refine lv_iconst (v := 1) hx hb dM_steps_36 (by decide) ?_
              refine lv_goto (tgt := 41) hx hb dM_steps_37 (by decide) ?_
              refine lv_istore_n hx hb dM_steps_41 rfl hl (by decide) rfl (fun ls hl => ?_)
              have hl : lv_has ls 4 [(3, .int 1), (0, .ref h), (1, .int x1), (2, .int x2)] := hl
              refine lv_iload_n hx hb dM_steps_42 rfl (lv_at hl 0 rfl) ?_
              refine lv_if_eq (tgt := 52) hx hb dM_steps_43 (by decide) (fun z => absurd z (by decide)) (fun _ => ?_)
              refine lv_iload_n hx hb dM_steps_46 rfl (lv_at hl 3 rfl) ?_
              refine lv_iconst (v := 1) hx hb dM_steps_47 (by decide) ?_
              refine lv_iadd hx hb dM_steps_48 ?_
              refine lv_goto (tgt := 53) hx hb dM_steps_49 (by decide) ?_
              refine lv_istore_n hx hb dM_steps_53 rfl hl (by decide) rfl (fun ls hl => ?_)
              have hl : lv_has ls 4 [(2, .int (x2 + 1)), (3, .int 1), (0, .ref h), (1, .int x1)] := hl
              refine lv_iload_n hx hb dM_steps_54 rfl (lv_at hl 1 rfl) ?_
              refine lv_if_eq (tgt := 67) hx hb dM_steps_55 (by decide) (fun z => absurd z (by decide)) (fun _ => ?_)
              refine lv_iload_n hx hb dM_steps_58 rfl (lv_at hl 0 rfl) ?_
              refine lv_iload_n hx hb dM_steps_59 rfl (lv_at hl 3 rfl) ?_
              refine lv_icmp_ge (tgt := 67) hx hb dM_steps_60 (by decide) (fun hc23 => ?_) (fun hc23 => ?_)
              · replace hr := (if_pos hc23).symm.trans hr
                refine lv_iconst (v := 0) hx hb dM_steps_67 (by decide) ?_
                refine lv_istore_n hx hb dM_steps_68 rfl hl (by decide) rfl (fun ls hl => ?_)
                have hl : lv_has ls 4 [(3, .int 0), (2, .int (x2 + 1)), (0, .ref h), (1, .int x1)] := hl
                refine lv_goto (tgt := 25) hx hb dM_steps_69 (by decide) ?_
                exact ih25 (x2 + 1) 0 q20.2 H locs ls hr (lv_sub hl [2, 3, 1, 0] rfl) hP hD hS
              · replace hr := (if_neg hc23).symm.trans hr
                refine lv_iconst (v := 1) hx hb dM_steps_63 (by decide) ?_
                refine lv_goto (tgt := 68) hx hb dM_steps_64 (by decide) ?_
                refine lv_istore_n hx hb dM_steps_68 rfl hl (by decide) rfl (fun ls hl => ?_)
                have hl : lv_has ls 4 [(3, .int 1), (2, .int (x2 + 1)), (0, .ref h), (1, .int x1)] := hl
                refine lv_goto (tgt := 25) hx hb dM_steps_69 (by decide) ?_
                exact ih25 (x2 + 1) 1 q20.2 H locs ls hr (lv_sub hl [2, 3, 1, 0] rfl) hP hD hS
      exact loop25 1000001 0 1 (tp_up σ 0 0 1) _ _ ls hr (lv_sub hl [2, 3, 1, 0] rfl) hP hD hS
set_option maxHeartbeats 4000000 in
set_option maxRecDepth 100000 in
theorem cM_disk (l : Launch) (D : va_G) (h : Nat) (a : Nat → Nat) (cI cZ : ClassId) (sz : Nat) (σ : tp_St) (x1 : Int32) (x2 : Int32) (r : tp_St) (hr : fM_disk σ x1 x2 = some r) : Met l tp_yM_disk (tp_wsT tp_yM_disk tp_bM_disk 3 none) { frames := 0, cells := 0, slots := 0, locals := 0 } (tp_PcW D [(cI, .int), (cZ, .boolean)] (tp_wM h a cI cZ σ) sz [.ref h, .int x1, .int x2]) (tp_qW none D (tp_wM h a cI cZ r) (va_A (tp_wM h a cI cZ σ) sz)) 0 0 (va_A (tp_wM h a cI cZ σ) sz) := by
  refine Met.ofW (cc := tp_bM_disk) (maxL := 3) (ret := none) (by decide) rfl ?_
  intro p e s m args below meth c s₁ B hml hv
  obtain ⟨rfl, hsz, hP, hK, hD0⟩ := hv
  have hx := B.exec
  have hb := B.bytes
  have hrt := B.returns
  have hTB : ∀ w ∈ tp_TB, w.before _ s = true := fun w z => atoms_spec (ws := (tp_wsT tp_yM_disk tp_bM_disk 3 none)) B.pre w (List.mem_cons_of_mem _ z)
  have hown : s.vm.findClass tp_RM = some m.cls := findClass_of_methodNamed B.named
  have hlocks := B.notSynchronized
  have S : CallFix p m c tp_bM_disk 3 s _ tp_TB tp_RM := ⟨hx, hb, hml, hown, hTB⟩
  subst hsz
  have hD : va_D (va_A (tp_wM h a cI cZ σ) s.heap.size) (tp_wM h a cI cZ σ) := hD0.self
  have hA : ∀ q : Nat, s.heap.size ≤ q → va_A (tp_wM h a cI cZ σ) s.heap.size q := fun q z => Or.inr z
  have hS : va_S (va_A (tp_wM h a cI cZ σ) s.heap.size) s.heap s.heap [] := va_S.rf
  have hl := lv_entry ([.ref h, .int x1, .int x2]) (n := 3) (Nat.le_of_ble_eq_true rfl)
  rw [lg_entry_eq]
  generalize (lg_sl ([.ref h, .int x1, .int x2]) ++ List.replicate (3 - (lg_sl ([.ref h, .int x1, .int x2])).length) Slot.unset).toArray = ls at hl ⊢
  have hl : lv_has ls 3 [(0, .ref h), (1, .int x1), (2, .int x2)] := hl
  rw [fM_disk] at hr
  refine lv_aload_n hx hb dM_disk_0 rfl (lv_at hl 0 rfl) ?_
  refine lv_iload_n hx hb dM_disk_1 rfl (lv_at hl 1 rfl) ?_
  refine lv_if_lt (tgt := 11) hx hb dM_disk_2 (by decide) (fun hc1 => ?_) (fun hc1 => ?_)
  · replace hr := (if_pos hc1).symm.trans hr
    refine lv_iconst (v := 1) hx hb dM_disk_11 (by decide) ?_
    refine lv_goto (tgt := 45) hx hb dM_disk_12 (by decide) ?_
    refine tp_ptM0 S hK hP hD hS tp_mM_f0 dM_disk_45 (fun H locs hP hD hS => ?_)
    refine lv_aload_n hx hb dM_disk_48 rfl (lv_at hl 0 rfl) ?_
    refine tp_gtM S hK hP 0 (by decide) (v := .int 1) tp_mM_f0 rfl dM_disk_49 ?_
    refine lv_if_ne (tgt := 69) hx hb dM_disk_52 (by decide) (fun _ => ?_) (fun z => absurd z (by decide))
    obtain rfl := Option.some.inj hr
    exact W.vret hx hb hrt (fun t ht _ => ⟨rfl, by rw [ht]; exact hP, hS.F ht⟩) hS.2.2 dM_disk_69 hlocks
  · replace hr := (if_neg hc1).symm.trans hr
    refine lv_iload_n hx hb dM_disk_5 rfl (lv_at hl 1 rfl) ?_
    refine lv_bipush (v := 12) hx hb dM_disk_6 (by decide) ?_
    refine lv_icmp_lt (tgt := 15) hx hb dM_disk_8 (by decide) (fun hc2 => ?_) (fun hc2 => ?_)
    · replace hr := (if_pos hc2).symm.trans hr
      refine lv_aload_n hx hb dM_disk_15 rfl (lv_at hl 0 rfl) ?_
      refine tp_gtM S hK hP 1 (by decide) (v := .ref (a 1)) tp_mM_f1 rfl dM_disk_16 ?_
      refine lv_iload_n hx hb dM_disk_19 rfl (lv_at hl 1 rfl) ?_
      by_cases hb3 : tp_oob x1 12
      · exact nomatch ((if_pos hb3).symm.trans hr)
      replace hr := (if_neg hb3).symm.trans hr
      refine va_iald hx hb hK hP 1 0 rfl rfl hb3 dM_disk_20 ?_
      refine lv_if_le (tgt := 28) hx hb dM_disk_21 (by decide) (fun hc4 => ?_) (fun hc4 => ?_)
      · replace hr := (if_pos hc4).symm.trans hr
        refine lv_iload_n hx hb dM_disk_28 rfl (lv_at hl 2 rfl) ?_
        refine lv_iconst (v := 1) hx hb dM_disk_29 (by decide) ?_
        refine lv_icmp_lt (tgt := 40) hx hb dM_disk_30 (by decide) (fun hc5 => ?_) (fun hc5 => ?_)
        · replace hr := (if_pos hc5).symm.trans hr
          refine lv_iconst (v := 3) hx hb dM_disk_40 (by decide) ?_
          refine lv_goto (tgt := 45) hx hb dM_disk_41 (by decide) ?_
          refine tp_ptM0 S hK hP hD hS tp_mM_f0 dM_disk_45 (fun H locs hP hD hS => ?_)
          refine lv_aload_n hx hb dM_disk_48 rfl (lv_at hl 0 rfl) ?_
          refine tp_gtM S hK hP 0 (by decide) (v := .int 3) tp_mM_f0 rfl dM_disk_49 ?_
          refine lv_if_ne (tgt := 69) hx hb dM_disk_52 (by decide) (fun _ => ?_) (fun z => absurd z (by decide))
          obtain rfl := Option.some.inj hr
          exact W.vret hx hb hrt (fun t ht _ => ⟨rfl, by rw [ht]; exact hP, hS.F ht⟩) hS.2.2 dM_disk_69 hlocks
        · replace hr := (if_neg hc5).symm.trans hr
          refine lv_iload_n hx hb dM_disk_33 rfl (lv_at hl 2 rfl) ?_
          refine lv_sipush (v := 200) hx hb dM_disk_34 (by decide) ?_
          refine lv_icmp_le (tgt := 44) hx hb dM_disk_37 (by decide) (fun hc6 => ?_) (fun hc6 => ?_)
          · replace hr := (if_pos hc6).symm.trans hr
            refine lv_iconst (v := 0) hx hb dM_disk_44 (by decide) ?_
            refine tp_ptM0 S hK hP hD hS tp_mM_f0 dM_disk_45 (fun H locs hP hD hS => ?_)
            refine lv_aload_n hx hb dM_disk_48 rfl (lv_at hl 0 rfl) ?_
            refine tp_gtM S hK hP 0 (by decide) (v := .int 0) tp_mM_f0 rfl dM_disk_49 ?_
            refine lv_if_ne (tgt := 69) hx hb dM_disk_52 (by decide) (fun z => absurd (by decide) z) (fun _ => ?_)
            refine lv_aload_n hx hb dM_disk_55 rfl (lv_at hl 0 rfl) ?_
            refine tp_gtM S hK hP 1 (by decide) (v := .ref (a 1)) tp_mM_f1 rfl dM_disk_56 ?_
            refine lv_iload_n hx hb dM_disk_59 rfl (lv_at hl 1 rfl) ?_
            refine lv_iload_n hx hb dM_disk_60 rfl (lv_at hl 2 rfl) ?_
            refine tp_asM1 S hK hP hD hS hb3 dM_disk_61 (fun H locs hP hD hS => ?_)
            refine lv_aload_n hx hb dM_disk_62 rfl (lv_at hl 0 rfl) ?_
            refine tp_gtM S hK hP 2 (by decide) (v := .ref (a 2)) tp_mM_f2 rfl dM_disk_63 ?_
            refine lv_iload_n hx hb dM_disk_66 rfl (lv_at hl 1 rfl) ?_
            refine lv_iconst (v := 0) hx hb dM_disk_67 (by decide) ?_
            refine tp_asM2 S hK hP hD hS hb3 dM_disk_68 (fun H locs hP hD hS => ?_)
            obtain rfl := Option.some.inj hr
            exact W.vret hx hb hrt (fun t ht _ => ⟨rfl, by rw [ht]; exact hP, hS.F ht⟩) hS.2.2 dM_disk_69 hlocks
          · replace hr := (if_neg hc6).symm.trans hr
            refine lv_iconst (v := 3) hx hb dM_disk_40 (by decide) ?_
            refine lv_goto (tgt := 45) hx hb dM_disk_41 (by decide) ?_
            refine tp_ptM0 S hK hP hD hS tp_mM_f0 dM_disk_45 (fun H locs hP hD hS => ?_)
            refine lv_aload_n hx hb dM_disk_48 rfl (lv_at hl 0 rfl) ?_
            refine tp_gtM S hK hP 0 (by decide) (v := .int 3) tp_mM_f0 rfl dM_disk_49 ?_
            refine lv_if_ne (tgt := 69) hx hb dM_disk_52 (by decide) (fun _ => ?_) (fun z => absurd z (by decide))
            obtain rfl := Option.some.inj hr
            exact W.vret hx hb hrt (fun t ht _ => ⟨rfl, by rw [ht]; exact hP, hS.F ht⟩) hS.2.2 dM_disk_69 hlocks
      · replace hr := (if_neg hc4).symm.trans hr
        refine lv_iconst (v := 2) hx hb dM_disk_24 (by decide) ?_
        refine lv_goto (tgt := 45) hx hb dM_disk_25 (by decide) ?_
        refine tp_ptM0 S hK hP hD hS tp_mM_f0 dM_disk_45 (fun H locs hP hD hS => ?_)
        refine lv_aload_n hx hb dM_disk_48 rfl (lv_at hl 0 rfl) ?_
        refine tp_gtM S hK hP 0 (by decide) (v := .int 2) tp_mM_f0 rfl dM_disk_49 ?_
        refine lv_if_ne (tgt := 69) hx hb dM_disk_52 (by decide) (fun _ => ?_) (fun z => absurd z (by decide))
        obtain rfl := Option.some.inj hr
        exact W.vret hx hb hrt (fun t ht _ => ⟨rfl, by rw [ht]; exact hP, hS.F ht⟩) hS.2.2 dM_disk_69 hlocks
    · replace hr := (if_neg hc2).symm.trans hr
      refine lv_iconst (v := 1) hx hb dM_disk_11 (by decide) ?_
      refine lv_goto (tgt := 45) hx hb dM_disk_12 (by decide) ?_
      refine tp_ptM0 S hK hP hD hS tp_mM_f0 dM_disk_45 (fun H locs hP hD hS => ?_)
      refine lv_aload_n hx hb dM_disk_48 rfl (lv_at hl 0 rfl) ?_
      refine tp_gtM S hK hP 0 (by decide) (v := .int 1) tp_mM_f0 rfl dM_disk_49 ?_
      refine lv_if_ne (tgt := 69) hx hb dM_disk_52 (by decide) (fun _ => ?_) (fun z => absurd z (by decide))
      obtain rfl := Option.some.inj hr
      exact W.vret hx hb hrt (fun t ht _ => ⟨rfl, by rw [ht]; exact hP, hS.F ht⟩) hS.2.2 dM_disk_69 hlocks
