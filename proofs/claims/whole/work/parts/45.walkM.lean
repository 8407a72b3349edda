set_option maxHeartbeats 4000000 in
set_option maxRecDepth 100000 in
theorem cM_leaveOne (l : Launch) (D : va_G) (h : Nat) (a : Nat → Nat) (cI cZ : ClassId) (sz : Nat) (σ : tp_St) (x1 : Int32) (r : (Int32 × tp_St)) (hr : fM_leaveOne σ x1 = some r) : Met l tp_yM_leaveOne (tp_wsT tp_yM_leaveOne tp_bM_leaveOne 5 (some .boolean)) { frames := 4, cells := 0, slots := 0, locals := 91 } (tp_PcW D [(cI, .int), (cZ, .boolean)] (tp_wM h a cI cZ σ) sz [.ref h, .int x1]) (tp_qW (some (.int r.1)) D (tp_wM h a cI cZ r.2) (va_A (tp_wM h a cI cZ σ) sz)) 0 0 (va_A (tp_wM h a cI cZ σ) sz) := by
  refine Met.ofW (cc := tp_bM_leaveOne) (maxL := 5) (ret := (some .boolean)) (by decide) rfl ?_
  intro p e s m args below meth c s₁ B hml hv
  obtain ⟨rfl, hsz, hP, hK, hD0⟩ := hv
  have hx := B.exec
  have hb := B.bytes
  have hrt := B.returns
  have hTB : ∀ w ∈ tp_TB, w.before _ s = true := fun w z => atoms_spec (ws := (tp_wsT tp_yM_leaveOne tp_bM_leaveOne 5 (some .boolean))) B.pre w (List.mem_cons_of_mem _ z)
  have hown : s.vm.findClass tp_RM = some m.cls := findClass_of_methodNamed B.named
  have hlocks := B.notSynchronized
  have S : CallFix p m c tp_bM_leaveOne 5 s _ tp_TB tp_RM := ⟨hx, hb, hml, hown, hTB⟩
  subst hsz
  have hD : va_D (va_A (tp_wM h a cI cZ σ) s.heap.size) (tp_wM h a cI cZ σ) := hD0.self
  have hA : ∀ q : Nat, s.heap.size ≤ q → va_A (tp_wM h a cI cZ σ) s.heap.size q := fun q z => Or.inr z
  have hS : va_S (va_A (tp_wM h a cI cZ σ) s.heap.size) s.heap s.heap [] := va_S.rf
  have hl := lv_entry ([.ref h, .int x1]) (n := 5) (Nat.le_of_ble_eq_true rfl)
  rw [lg_entry_eq]
  generalize (lg_sl ([.ref h, .int x1]) ++ List.replicate (5 - (lg_sl ([.ref h, .int x1])).length) Slot.unset).toArray = ls at hl ⊢
  have hl : lv_has ls 5 [(0, .ref h), (1, .int x1)] := hl
  rw [fM_leaveOne] at hr
  refine lv_iconst (v := 0) hx hb dM_leaveOne_0 (by decide) ?_
  refine lv_istore_n hx hb dM_leaveOne_1 rfl hl (by decide) rfl (fun ls hl => ?_)
  have hl : lv_has ls 5 [(2, .int 0), (0, .ref h), (1, .int x1)] := hl
  have loop2 : ∀ (n2 : Nat) (x2 : Int32) (σ2 : tp_St) (H : Heap) (locs : List Loc) (ls : Array Slot), fM_leaveOne_L2 x1 n2 x2 σ2 = some r → lv_has ls 5 [(0, .ref h), (1, .int x1), (2, .int x2)] → va_P D tp_CL (tp_wM h a cI cZ σ2) H → va_D (va_A (tp_wM h a cI cZ σ) s.heap.size) (tp_wM h a cI cZ σ2) → va_S (va_A (tp_wM h a cI cZ σ) s.heap.size) s.heap H locs → W p l e { frames := 4, cells := 0, slots := 0, locals := 91 } s m (([.ref h, .int x1] : List Value).toArray) below meth c H locs 0 0 (MQ below (tp_qW (some (.int r.1)) D (tp_wM h a cI cZ r.2) (va_A (tp_wM h a cI cZ σ) s.heap.size)) (([.ref h, .int x1] : List Value).toArray) s 0 0 (va_A (tp_wM h a cI cZ σ) s.heap.size)) (F0 m 2 ls []) := by
    intro n2
    induction n2 with
    | zero => intro x2 σ2 H locs ls hr hl hP hD hS; exact nomatch (show (none : Option (Int32 × tp_St)) = some r from hr)
    | succ n2 ih2 =>
      intro x2 σ2 H locs ls hr hl hP hD hS
      rw [fM_leaveOne_L2] at hr
      refine lv_iload_n hx hb dM_leaveOne_2 rfl (lv_at hl 2 rfl) ?_
      refine lv_bipush (v := 12) hx hb dM_leaveOne_3 (by decide) ?_
      refine lv_icmp_ge (tgt := 115) hx hb dM_leaveOne_5 (by decide) (fun hc1 => ?_) (fun hc1 => ?_)
      · replace hr := (if_pos hc1).symm.trans hr
        refine lv_iconst (v := 0) hx hb dM_leaveOne_115 (by decide) ?_
        obtain rfl := Option.some.inj hr
        exact W.zret (v := 0) hx hb hrt (by decide) (fun t ht _ => ⟨rfl, by rw [ht]; exact hP, hS.F ht⟩) hS.2.2 dM_leaveOne_116 hlocks
      · replace hr := (if_neg hc1).symm.trans hr
        refine lv_iconst (v := 0) hx hb dM_leaveOne_8 (by decide) ?_
        refine lv_istore_n hx hb dM_leaveOne_9 rfl hl (by decide) rfl (fun ls hl => ?_)
        have hl : lv_has ls 5 [(3, .int 0), (0, .ref h), (1, .int x1), (2, .int x2)] := hl
        have loop10 : ∀ (n10 : Nat) (x3 : Int32) (σ10 : tp_St) (H : Heap) (locs : List Loc) (ls : Array Slot), fM_leaveOne_L10 (fun (σ10k : tp_St) => fM_leaveOne_L2 x1 n2 (x2 + 1) σ10k) x1 x2 n10 x3 σ10 = some r → lv_has ls 5 [(0, .ref h), (1, .int x1), (2, .int x2), (3, .int x3)] → va_P D tp_CL (tp_wM h a cI cZ σ10) H → va_D (va_A (tp_wM h a cI cZ σ) s.heap.size) (tp_wM h a cI cZ σ10) → va_S (va_A (tp_wM h a cI cZ σ) s.heap.size) s.heap H locs → W p l e { frames := 4, cells := 0, slots := 0, locals := 91 } s m (([.ref h, .int x1] : List Value).toArray) below meth c H locs 0 0 (MQ below (tp_qW (some (.int r.1)) D (tp_wM h a cI cZ r.2) (va_A (tp_wM h a cI cZ σ) s.heap.size)) (([.ref h, .int x1] : List Value).toArray) s 0 0 (va_A (tp_wM h a cI cZ σ) s.heap.size)) (F0 m 10 ls []) := by
          intro n10
          induction n10 with
          | zero => intro x3 σ10 H locs ls hr hl hP hD hS; exact nomatch (show (none : Option (Int32 × tp_St)) = some r from hr)
          | succ n10 ih10 =>
            intro x3 σ10 H locs ls hr hl hP hD hS
            rw [fM_leaveOne_L10] at hr
            refine lv_iload_n hx hb dM_leaveOne_10 rfl (lv_at hl 3 rfl) ?_
            refine lv_sipush (v := 400) hx hb dM_leaveOne_11 (by decide) ?_
            refine lv_icmp_ge (tgt := 109) hx hb dM_leaveOne_14 (by decide) (fun hc2 => ?_) (fun hc2 => ?_)
            · replace hr := (if_pos hc2).symm.trans hr
              have hl := lv_sub hl (l' := [(0, .ref h), (1, .int x1), (2, .int x2)]) [0, 1, 2] rfl
              refine lv_iinc (k := 2) (v := (x2 + 1)) hx hb dM_leaveOne_109 hl rfl (tp_ii1 _) (by decide) rfl (fun ls hl => ?_)
              have hl : lv_has ls 5 [(2, .int (x2 + 1)), (0, .ref h), (1, .int x1)] := hl
              refine lv_goto (tgt := 2) hx hb dM_leaveOne_112 (by decide) ?_
              exact ih2 (x2 + 1) σ10 H locs ls hr (lv_sub hl [1, 2, 0] rfl) hP hD hS
            · replace hr := (if_neg hc2).symm.trans hr
              refine lv_aload_n hx hb dM_leaveOne_17 rfl (lv_at hl 0 rfl) ?_
              refine tp_gtM S hK hP 1 (by decide) (v := .ref (a 1)) tp_mM_f1 rfl dM_leaveOne_18 ?_
              refine lv_iload_n hx hb dM_leaveOne_21 rfl (lv_at hl 2 rfl) ?_
              by_cases hb3 : tp_oob x2 12
              · exact nomatch ((if_pos hb3).symm.trans hr)
              replace hr := (if_neg hb3).symm.trans hr
              refine va_iald hx hb hK hP 1 0 rfl rfl hb3 dM_leaveOne_22 ?_
              refine lv_if_le (tgt := 109) hx hb dM_leaveOne_23 (by decide) (fun hc4 => ?_) (fun hc4 => ?_)
              · replace hr := (if_pos hc4).symm.trans hr
                have hl := lv_sub hl (l' := [(0, .ref h), (1, .int x1), (2, .int x2)]) [0, 1, 2] rfl
                refine lv_iinc (k := 2) (v := (x2 + 1)) hx hb dM_leaveOne_109 hl rfl (tp_ii1 _) (by decide) rfl (fun ls hl => ?_)
                have hl : lv_has ls 5 [(2, .int (x2 + 1)), (0, .ref h), (1, .int x1)] := hl
                refine lv_goto (tgt := 2) hx hb dM_leaveOne_112 (by decide) ?_
                exact ih2 (x2 + 1) σ10 H locs ls hr (lv_sub hl [1, 2, 0] rfl) hP hD hS
              · replace hr := (if_neg hc4).symm.trans hr
                refine lv_aload_n hx hb dM_leaveOne_26 rfl (lv_at hl 0 rfl) ?_
                refine tp_gtM S hK hP 2 (by decide) (v := .ref (a 2)) tp_mM_f2 rfl dM_leaveOne_27 ?_
                refine lv_iload_n hx hb dM_leaveOne_30 rfl (lv_at hl 2 rfl) ?_
                refine va_zald hx hb hK hP 2 1 rfl rfl hb3 dM_leaveOne_31 ?_
                refine lv_if_eq (tgt := 109) hx hb dM_leaveOne_32 (by decide) (fun hc5 => ?_) (fun hc5 => ?_)
                · replace hr := (if_pos hc5).symm.trans hr
                  have hl := lv_sub hl (l' := [(0, .ref h), (1, .int x1), (2, .int x2)]) [0, 1, 2] rfl
                  refine lv_iinc (k := 2) (v := (x2 + 1)) hx hb dM_leaveOne_109 hl rfl (tp_ii1 _) (by decide) rfl (fun ls hl => ?_)
                  have hl : lv_has ls 5 [(2, .int (x2 + 1)), (0, .ref h), (1, .int x1)] := hl
                  refine lv_goto (tgt := 2) hx hb dM_leaveOne_112 (by decide) ?_
                  exact ih2 (x2 + 1) σ10 H locs ls hr (lv_sub hl [1, 2, 0] rfl) hP hD hS
                · replace hr := (if_neg hc5).symm.trans hr
                  refine lv_aload_n hx hb dM_leaveOne_35 rfl (lv_at hl 0 rfl) ?_
                  refine lv_iload_n hx hb dM_leaveOne_36 rfl (lv_at hl 3 rfl) ?_
                  refine lv_iload_n hx hb dM_leaveOne_37 rfl (lv_at hl 2 rfl) ?_
                  obtain ⟨q6, hq7, hr⟩ := Option.bind_eq_some_iff.mp hr
                  refine tp_kP (rest := []) S hK hP hD rfl rfl (cM_isOn l D h a cI cZ _ σ10 x3 x2 q6 hq7) (cwV 2 hTB tp_gM_isOn rfl rfl rfl ⟨rfl, by decide, by decide, by decide +kernel⟩ ⟨Nat.le_of_ble_eq_true rfl, Nat.le_of_ble_eq_true rfl⟩) rfl hl.1 rfl (Nat.le_of_ble_eq_true rfl) dM_leaveOne_38 ⟨Nat.zero_le _, Nat.zero_le _⟩ ?_
                  refine lv_if_eq (tgt := 103) hx hb dM_leaveOne_41 (by decide) (fun hc8 => ?_) (fun hc8 => ?_)
                  · replace hr := (if_pos hc8).symm.trans hr
                    refine lv_iinc (k := 3) (v := (x3 + 1)) hx hb dM_leaveOne_103 hl rfl (tp_ii1 _) (by decide) rfl (fun ls hl => ?_)
                    have hl : lv_has ls 5 [(3, .int (x3 + 1)), (0, .ref h), (1, .int x1), (2, .int x2)] := hl
                    refine lv_goto (tgt := 10) hx hb dM_leaveOne_106 (by decide) ?_
                    exact ih10 (x3 + 1) σ10 H locs ls hr (lv_sub hl [1, 2, 3, 0] rfl) hP hD hS
                  · replace hr := (if_neg hc8).symm.trans hr
                    refine lv_iload_n hx hb dM_leaveOne_44 rfl (lv_at hl 1 rfl) ?_
                    refine lv_if_eq (tgt := 52) hx hb dM_leaveOne_45 (by decide) (fun hc9 => ?_) (fun hc9 => ?_)
                    · replace hr := (if_pos hc9).symm.trans hr
                      refine lv_aload_n hx hb dM_leaveOne_52 rfl (lv_at hl 0 rfl) ?_
                      refine lv_iconst (v := (-1)) hx hb dM_leaveOne_53 (by decide) ?_
                      refine lv_iload_n hx hb dM_leaveOne_54 rfl (lv_at hl 3 rfl) ?_
                      obtain ⟨q10, hq11, hr⟩ := Option.bind_eq_some_iff.mp hr
                      refine tp_kP (rest := []) S hK hP hD rfl rfl (cM_emptiest l D h a cI cZ _ σ10 (-1) x3 q10 hq11) (cwV 2 hTB tp_gM_emptiest rfl rfl rfl ⟨rfl, by decide, by decide, by decide +kernel⟩ ⟨Nat.le_of_ble_eq_true rfl, Nat.le_of_ble_eq_true rfl⟩) rfl hl.1 rfl (Nat.le_of_ble_eq_true rfl) dM_leaveOne_55 ⟨Nat.zero_le _, Nat.zero_le _⟩ ?_
                      refine lv_istore hx hb dM_leaveOne_58 hl (by decide) rfl (fun ls hl => ?_)
                      have hl : lv_has ls 5 [(4, .int q10), (0, .ref h), (1, .int x1), (2, .int x2), (3, .int x3)] := hl
                      refine lv_iload hx hb dM_leaveOne_60 (lv_at hl 0 rfl) ?_
                      refine lv_if_lt (tgt := 88) hx hb dM_leaveOne_62 (by decide) (fun hc12 => ?_) (fun hc12 => ?_)
                      · replace hr := (if_pos hc12).symm.trans hr
                        refine lv_iload_n hx hb dM_leaveOne_88 rfl (lv_at hl 2 rfl) ?_
                        refine lv_if_eq (tgt := 103) hx hb dM_leaveOne_89 (by decide) (fun hc13 => ?_) (fun hc13 => ?_)
                        · replace hr := (if_pos hc13).symm.trans hr
                          refine lv_iinc (k := 4) (v := (x3 + 1)) hx hb dM_leaveOne_103 hl rfl (tp_ii1 _) (by decide) rfl (fun ls hl => ?_)
                          have hl : lv_has ls 5 [(3, .int (x3 + 1)), (4, .int q10), (0, .ref h), (1, .int x1), (2, .int x2)] := hl
                          refine lv_goto (tgt := 10) hx hb dM_leaveOne_106 (by decide) ?_
                          exact ih10 (x3 + 1) σ10 H locs ls hr (lv_sub hl [2, 3, 4, 0] rfl) hP hD hS
                        · replace hr := (if_neg hc13).symm.trans hr
                          refine lv_aload_n hx hb dM_leaveOne_92 rfl (lv_at hl 1 rfl) ?_
                          refine lv_iload_n hx hb dM_leaveOne_93 rfl (lv_at hl 4 rfl) ?_
                          refine lv_iload_n hx hb dM_leaveOne_94 rfl (lv_at hl 3 rfl) ?_
                          obtain ⟨q14, hq15, hr⟩ := Option.bind_eq_some_iff.mp hr
                          refine tp_kV (rest := []) S hK hP hD hS hA rfl rfl (cM_roomFor l D h a cI cZ _ σ10 x3 x2 q14 hq15) (cwV 2 hTB tp_gM_roomFor rfl rfl rfl ⟨rfl, by decide, by decide, by decide +kernel⟩ ⟨Nat.le_of_ble_eq_true rfl, Nat.le_of_ble_eq_true rfl⟩) rfl hl.1 rfl (Nat.le_of_ble_eq_true rfl) dM_leaveOne_95 ⟨Nat.zero_le _, Nat.zero_le _⟩ (fun H locs hP hS => ?_)
                          have hP : va_P D tp_CL (tp_wM h a cI cZ q14.2) H := hP
                          have hD : va_D (va_A (tp_wM h a cI cZ σ) s.heap.size) (tp_wM h a cI cZ q14.2) := tp_dre hD tp_wM_fst
                          refine lv_if_eq (tgt := 103) hx hb dM_leaveOne_98 (by decide) (fun hc16 => ?_) (fun hc16 => ?_)
                          · replace hr := (if_pos hc16).symm.trans hr
                            refine lv_iinc (k := 4) (v := (x3 + 1)) hx hb dM_leaveOne_103 hl rfl (tp_ii1 _) (by decide) rfl (fun ls hl => ?_)
                            have hl : lv_has ls 5 [(3, .int (x3 + 1)), (4, .int q10), (0, .ref h), (1, .int x1), (2, .int x2)] := hl
                            refine lv_goto (tgt := 10) hx hb dM_leaveOne_106 (by decide) ?_
                            exact ih10 (x3 + 1) q14.2 H locs ls hr (lv_sub hl [2, 3, 4, 0] rfl) hP hD hS
                          · replace hr := (if_neg hc16).symm.trans hr
                            refine lv_iconst (v := 1) hx hb dM_leaveOne_101 (by decide) ?_
                            obtain rfl := Option.some.inj hr
                            exact W.zret (v := 1) hx hb hrt (by decide) (fun t ht _ => ⟨rfl, by rw [ht]; exact hP, hS.F ht⟩) hS.2.2 dM_leaveOne_102 hlocks
                      · replace hr := (if_neg hc12).symm.trans hr
                        refine lv_aload_n hx hb dM_leaveOne_65 rfl (lv_at hl 1 rfl) ?_
                        refine tp_gtM S hK hP 4 (by decide) (v := .ref (a 4)) tp_mM_f4 rfl dM_leaveOne_66 ?_
                        refine lv_iload_n hx hb dM_leaveOne_69 rfl (lv_at hl 4 rfl) ?_
                        refine lv_aload_n hx hb dM_leaveOne_70 rfl (lv_at hl 1 rfl) ?_
                        refine tp_gtM S hK hP 4 (by decide) (v := .ref (a 4)) tp_mM_f4 rfl dM_leaveOne_71 ?_
                        refine lv_iload_n hx hb dM_leaveOne_74 rfl (lv_at hl 4 rfl) ?_
                        by_cases hb17 : tp_oob x3 400
                        · exact nomatch ((if_pos hb17).symm.trans hr)
                        replace hr := (if_neg hb17).symm.trans hr
                        refine va_iald hx hb hK hP 4 0 rfl rfl hb17 dM_leaveOne_75 ?_
                        refine lv_iconst (v := 1) hx hb dM_leaveOne_76 (by decide) ?_
                        refine lv_iload_n hx hb dM_leaveOne_77 rfl (lv_at hl 3 rfl) ?_
                        refine lv_ishl hx hb dM_leaveOne_78 ?_
                        refine lv_isub hx hb dM_leaveOne_79 ?_
                        refine lv_iconst (v := 1) hx hb dM_leaveOne_80 (by decide) ?_
                        refine lv_iload hx hb dM_leaveOne_81 (lv_at hl 0 rfl) ?_
                        refine lv_ishl hx hb dM_leaveOne_83 ?_
                        refine lv_iadd hx hb dM_leaveOne_84 ?_
                        refine tp_asM4 S hK hP hD hS hb17 dM_leaveOne_85 (fun H locs hP hD hS => ?_)
                        refine lv_iconst (v := 1) hx hb dM_leaveOne_86 (by decide) ?_
                        obtain rfl := Option.some.inj hr
                        exact W.zret (v := 1) hx hb hrt (by decide) (fun t ht _ => ⟨rfl, by rw [ht]; exact hP, hS.F ht⟩) hS.2.2 dM_leaveOne_87 hlocks
                    · replace hr := (if_neg hc9).symm.trans hr
                      refine lv_iconst (v := (-1)) hx hb dM_leaveOne_48 (by decide) ?_
                      refine lv_goto (tgt := 58) hx hb dM_leaveOne_49 (by decide) ?_
                      refine lv_istore hx hb dM_leaveOne_58 hl (by decide) rfl (fun ls hl => ?_)
                      have hl : lv_has ls 5 [(4, .int (-1)), (0, .ref h), (1, .int x1), (2, .int x2), (3, .int x3)] := hl
                      refine lv_iload hx hb dM_leaveOne_60 (lv_at hl 0 rfl) ?_
                      refine lv_if_lt (tgt := 88) hx hb dM_leaveOne_62 (by decide) (fun _ => ?_) (fun z => absurd (by decide) z)
                      refine lv_iload_n hx hb dM_leaveOne_88 rfl (lv_at hl 2 rfl) ?_
                      refine lv_if_eq (tgt := 103) hx hb dM_leaveOne_89 (by decide) (fun hc18 => ?_) (fun hc18 => ?_)
                      · replace hr := (if_pos hc18).symm.trans hr
                        refine lv_iinc (k := 4) (v := (x3 + 1)) hx hb dM_leaveOne_103 hl rfl (tp_ii1 _) (by decide) rfl (fun ls hl => ?_)
                        have hl : lv_has ls 5 [(3, .int (x3 + 1)), (4, .int (-1)), (0, .ref h), (1, .int x1), (2, .int x2)] := hl
                        refine lv_goto (tgt := 10) hx hb dM_leaveOne_106 (by decide) ?_
                        exact ih10 (x3 + 1) σ10 H locs ls hr (lv_sub hl [2, 3, 4, 0] rfl) hP hD hS
                      · replace hr := (if_neg hc18).symm.trans hr
                        refine lv_aload_n hx hb dM_leaveOne_92 rfl (lv_at hl 1 rfl) ?_
                        refine lv_iload_n hx hb dM_leaveOne_93 rfl (lv_at hl 4 rfl) ?_
                        refine lv_iload_n hx hb dM_leaveOne_94 rfl (lv_at hl 3 rfl) ?_
                        obtain ⟨q19, hq20, hr⟩ := Option.bind_eq_some_iff.mp hr
                        refine tp_kV (rest := []) S hK hP hD hS hA rfl rfl (cM_roomFor l D h a cI cZ _ σ10 x3 x2 q19 hq20) (cwV 2 hTB tp_gM_roomFor rfl rfl rfl ⟨rfl, by decide, by decide, by decide +kernel⟩ ⟨Nat.le_of_ble_eq_true rfl, Nat.le_of_ble_eq_true rfl⟩) rfl hl.1 rfl (Nat.le_of_ble_eq_true rfl) dM_leaveOne_95 ⟨Nat.zero_le _, Nat.zero_le _⟩ (fun H locs hP hS => ?_)
                        have hP : va_P D tp_CL (tp_wM h a cI cZ q19.2) H := hP
                        have hD : va_D (va_A (tp_wM h a cI cZ σ) s.heap.size) (tp_wM h a cI cZ q19.2) := tp_dre hD tp_wM_fst
                        refine lv_if_eq (tgt := 103) hx hb dM_leaveOne_98 (by decide) (fun hc21 => ?_) (fun hc21 => ?_)
                        · replace hr := (if_pos hc21).symm.trans hr
                          refine lv_iinc (k := 4) (v := (x3 + 1)) hx hb dM_leaveOne_103 hl rfl (tp_ii1 _) (by decide) rfl (fun ls hl => ?_)
                          have hl : lv_has ls 5 [(3, .int (x3 + 1)), (4, .int (-1)), (0, .ref h), (1, .int x1), (2, .int x2)] := hl
                          refine lv_goto (tgt := 10) hx hb dM_leaveOne_106 (by decide) ?_
                          exact ih10 (x3 + 1) q19.2 H locs ls hr (lv_sub hl [2, 3, 4, 0] rfl) hP hD hS
                        · replace hr := (if_neg hc21).symm.trans hr
                          refine lv_iconst (v := 1) hx hb dM_leaveOne_101 (by decide) ?_
                          obtain rfl := Option.some.inj hr
                          exact W.zret (v := 1) hx hb hrt (by decide) (fun t ht _ => ⟨rfl, by rw [ht]; exact hP, hS.F ht⟩) hS.2.2 dM_leaveOne_102 hlocks
        exact loop10 401 0 σ2 _ _ ls hr (lv_sub hl [1, 2, 3, 0] rfl) hP hD hS
  exact loop2 13 0 σ _ _ ls hr (lv_sub hl [1, 2, 0] rfl) hP hD hS
set_option maxHeartbeats 4000000 in
set_option maxRecDepth 100000 in
theorem cM_doStep (l : Launch) (D : va_G) (h : Nat) (a : Nat → Nat) (cI cZ : ClassId) (sz : Nat) (σ : tp_St) (r : (Int32 × tp_St)) (hr : fM_doStep σ = some r) : Met l tp_yM_doStep (tp_wsT tp_yM_doStep tp_bM_doStep 2 (some .int)) { frames := 5, cells := 0, slots := 0, locals := 115 } (tp_PcW D [(cI, .int), (cZ, .boolean)] (tp_wM h a cI cZ σ) sz [.ref h]) (tp_qW (some (.int r.1)) D (tp_wM h a cI cZ r.2) (va_A (tp_wM h a cI cZ σ) sz)) 0 0 (va_A (tp_wM h a cI cZ σ) sz) := by
  refine Met.ofW (cc := tp_bM_doStep) (maxL := 2) (ret := (some .int)) (by decide) rfl ?_
  intro p e s m args below meth c s₁ B hml hv
  obtain ⟨rfl, hsz, hP, hK, hD0⟩ := hv
  have hx := B.exec
  have hb := B.bytes
  have hrt := B.returns
  have hTB : ∀ w ∈ tp_TB, w.before _ s = true := fun w z => atoms_spec (ws := (tp_wsT tp_yM_doStep tp_bM_doStep 2 (some .int))) B.pre w (List.mem_cons_of_mem _ z)
  have hown : s.vm.findClass tp_RM = some m.cls := findClass_of_methodNamed B.named
  have hlocks := B.notSynchronized
  have S : CallFix p m c tp_bM_doStep 2 s _ tp_TB tp_RM := ⟨hx, hb, hml, hown, hTB⟩
  subst hsz
  have hD : va_D (va_A (tp_wM h a cI cZ σ) s.heap.size) (tp_wM h a cI cZ σ) := hD0.self
  have hA : ∀ q : Nat, s.heap.size ≤ q → va_A (tp_wM h a cI cZ σ) s.heap.size q := fun q z => Or.inr z
  have hS : va_S (va_A (tp_wM h a cI cZ σ) s.heap.size) s.heap s.heap [] := va_S.rf
  have hl := lv_entry ([.ref h]) (n := 2) (Nat.le_of_ble_eq_true rfl)
  rw [lg_entry_eq]
  generalize (lg_sl ([.ref h]) ++ List.replicate (2 - (lg_sl ([.ref h])).length) Slot.unset).toArray = ls at hl ⊢
  have hl : lv_has ls 2 [(0, .ref h)] := hl
  rw [fM_doStep] at hr
  refine lv_aload_n hx hb dM_doStep_0 rfl (lv_at hl 0 rfl) ?_
  obtain ⟨q1, hq2, hr⟩ := Option.bind_eq_some_iff.mp hr
  refine tp_kV (rest := []) S hK hP hD hS hA rfl rfl (cM_copyOne l D h a cI cZ _ σ  q1 hq2) (cwV 0 hTB tp_gM_copyOne rfl rfl rfl ⟨rfl, by decide, by decide, by decide +kernel⟩ ⟨Nat.le_of_ble_eq_true rfl, Nat.le_of_ble_eq_true rfl⟩) rfl hl.1 rfl (Nat.le_of_ble_eq_true rfl) dM_doStep_1 ⟨Nat.zero_le _, Nat.zero_le _⟩ (fun H locs hP hS => ?_)
  have hP : va_P D tp_CL (tp_wM h a cI cZ q1.2) H := hP
  have hD : va_D (va_A (tp_wM h a cI cZ σ) s.heap.size) (tp_wM h a cI cZ q1.2) := tp_dre hD tp_wM_fst
  refine lv_if_eq (tgt := 11) hx hb dM_doStep_4 (by decide) (fun hc3 => ?_) (fun hc3 => ?_)
  · replace hr := (if_pos hc3).symm.trans hr
    refine lv_aload_n hx hb dM_doStep_11 rfl (lv_at hl 0 rfl) ?_
    obtain ⟨q4, hq5, hr⟩ := Option.bind_eq_some_iff.mp hr
    refine tp_kV (rest := []) S hK hP hD hS hA rfl rfl (cM_roomForOne l D h a cI cZ _ q1.2  q4 hq5) (cwV 0 hTB tp_gM_roomForOne rfl rfl rfl ⟨rfl, by decide, by decide, by decide +kernel⟩ ⟨Nat.le_of_ble_eq_true rfl, Nat.le_of_ble_eq_true rfl⟩) rfl hl.1 rfl (Nat.le_of_ble_eq_true rfl) dM_doStep_12 ⟨Nat.zero_le _, Nat.zero_le _⟩ (fun H locs hP hS => ?_)
    have hP : va_P D tp_CL (tp_wM h a cI cZ q4.2) H := hP
    have hD : va_D (va_A (tp_wM h a cI cZ σ) s.heap.size) (tp_wM h a cI cZ q4.2) := tp_dre hD tp_wM_fst
    refine lv_if_eq (tgt := 22) hx hb dM_doStep_15 (by decide) (fun hc6 => ?_) (fun hc6 => ?_)
    · replace hr := (if_pos hc6).symm.trans hr
      refine lv_aload_n hx hb dM_doStep_22 rfl (lv_at hl 0 rfl) ?_
      refine lv_iconst (v := 0) hx hb dM_doStep_23 (by decide) ?_
      obtain ⟨q7, hq8, hr⟩ := Option.bind_eq_some_iff.mp hr
      refine tp_kV (rest := []) S hK hP hD hS hA rfl rfl (cM_leaveOne l D h a cI cZ _ q4.2 0 q7 hq8) (cwV 1 hTB tp_gM_leaveOne rfl rfl rfl ⟨rfl, by decide, by decide, by decide +kernel⟩ ⟨Nat.le_of_ble_eq_true rfl, Nat.le_of_ble_eq_true rfl⟩) rfl hl.1 rfl (Nat.le_of_ble_eq_true rfl) dM_doStep_24 ⟨Nat.zero_le _, Nat.zero_le _⟩ (fun H locs hP hS => ?_)
      have hP : va_P D tp_CL (tp_wM h a cI cZ q7.2) H := hP
      have hD : va_D (va_A (tp_wM h a cI cZ σ) s.heap.size) (tp_wM h a cI cZ q7.2) := tp_dre hD tp_wM_fst
      refine lv_if_eq (tgt := 34) hx hb dM_doStep_27 (by decide) (fun hc9 => ?_) (fun hc9 => ?_)
      · replace hr := (if_pos hc9).symm.trans hr
        refine lv_aload_n hx hb dM_doStep_34 rfl (lv_at hl 0 rfl) ?_
        refine lv_iconst (v := 1) hx hb dM_doStep_35 (by decide) ?_
        obtain ⟨q10, hq11, hr⟩ := Option.bind_eq_some_iff.mp hr
        refine tp_kV (rest := []) S hK hP hD hS hA rfl rfl (cM_leaveOne l D h a cI cZ _ q7.2 1 q10 hq11) (cwV 1 hTB tp_gM_leaveOne rfl rfl rfl ⟨rfl, by decide, by decide, by decide +kernel⟩ ⟨Nat.le_of_ble_eq_true rfl, Nat.le_of_ble_eq_true rfl⟩) rfl hl.1 rfl (Nat.le_of_ble_eq_true rfl) dM_doStep_36 ⟨Nat.zero_le _, Nat.zero_le _⟩ (fun H locs hP hS => ?_)
        have hP : va_P D tp_CL (tp_wM h a cI cZ q10.2) H := hP
        have hD : va_D (va_A (tp_wM h a cI cZ σ) s.heap.size) (tp_wM h a cI cZ q10.2) := tp_dre hD tp_wM_fst
        refine lv_if_eq (tgt := 46) hx hb dM_doStep_39 (by decide) (fun hc12 => ?_) (fun hc12 => ?_)
        · replace hr := (if_pos hc12).symm.trans hr
          refine lv_iconst (v := 0) hx hb dM_doStep_46 (by decide) ?_
          refine lv_istore_n hx hb dM_doStep_47 rfl hl (by decide) rfl (fun ls hl => ?_)
          have hl : lv_has ls 2 [(1, .int 0), (0, .ref h)] := hl
          refine lv_aload_n hx hb dM_doStep_48 rfl (lv_at hl 1 rfl) ?_
          obtain ⟨q13, hq14, hr⟩ := Option.bind_eq_some_iff.mp hr
          refine tp_kV (rest := []) S hK hP hD hS hA rfl rfl (cM_tidy l D h a cI cZ _ q10.2  q13 hq14) (cwV 0 hTB tp_gM_tidy rfl rfl rfl ⟨rfl, by decide, by decide, by decide +kernel⟩ ⟨Nat.le_of_ble_eq_true rfl, Nat.le_of_ble_eq_true rfl⟩) rfl hl.1 rfl (Nat.le_of_ble_eq_true rfl) dM_doStep_49 ⟨Nat.zero_le _, Nat.zero_le _⟩ (fun H locs hP hS => ?_)
          have hP : va_P D tp_CL (tp_wM h a cI cZ q13) H := hP
          have hD : va_D (va_A (tp_wM h a cI cZ σ) s.heap.size) (tp_wM h a cI cZ q13) := tp_dre hD tp_wM_fst
          refine lv_iload_n hx hb dM_doStep_52 rfl (lv_at hl 0 rfl) ?_
          obtain rfl := Option.some.inj hr
          exact W.iret (v := 0) hx hb hrt (fun t ht _ => ⟨rfl, by rw [ht]; exact hP, hS.F ht⟩) hS.2.2 dM_doStep_53 hlocks
        · replace hr := (if_neg hc12).symm.trans hr
          refine lv_iconst (v := 4) hx hb dM_doStep_42 (by decide) ?_
          refine lv_goto (tgt := 47) hx hb dM_doStep_43 (by decide) ?_
          refine lv_istore_n hx hb dM_doStep_47 rfl hl (by decide) rfl (fun ls hl => ?_)
          have hl : lv_has ls 2 [(1, .int 4), (0, .ref h)] := hl
          refine lv_aload_n hx hb dM_doStep_48 rfl (lv_at hl 1 rfl) ?_
          obtain ⟨q15, hq16, hr⟩ := Option.bind_eq_some_iff.mp hr
          refine tp_kV (rest := []) S hK hP hD hS hA rfl rfl (cM_tidy l D h a cI cZ _ q10.2  q15 hq16) (cwV 0 hTB tp_gM_tidy rfl rfl rfl ⟨rfl, by decide, by decide, by decide +kernel⟩ ⟨Nat.le_of_ble_eq_true rfl, Nat.le_of_ble_eq_true rfl⟩) rfl hl.1 rfl (Nat.le_of_ble_eq_true rfl) dM_doStep_49 ⟨Nat.zero_le _, Nat.zero_le _⟩ (fun H locs hP hS => ?_)
          have hP : va_P D tp_CL (tp_wM h a cI cZ q15) H := hP
          have hD : va_D (va_A (tp_wM h a cI cZ σ) s.heap.size) (tp_wM h a cI cZ q15) := tp_dre hD tp_wM_fst
          refine lv_iload_n hx hb dM_doStep_52 rfl (lv_at hl 0 rfl) ?_
          obtain rfl := Option.some.inj hr
          exact W.iret (v := 4) hx hb hrt (fun t ht _ => ⟨rfl, by rw [ht]; exact hP, hS.F ht⟩) hS.2.2 dM_doStep_53 hlocks
      · replace hr := (if_neg hc9).symm.trans hr
        refine lv_iconst (v := 3) hx hb dM_doStep_30 (by decide) ?_
        refine lv_goto (tgt := 47) hx hb dM_doStep_31 (by decide) ?_
        refine lv_istore_n hx hb dM_doStep_47 rfl hl (by decide) rfl (fun ls hl => ?_)
        have hl : lv_has ls 2 [(1, .int 3), (0, .ref h)] := hl
        refine lv_aload_n hx hb dM_doStep_48 rfl (lv_at hl 1 rfl) ?_
        obtain ⟨q17, hq18, hr⟩ := Option.bind_eq_some_iff.mp hr
        refine tp_kV (rest := []) S hK hP hD hS hA rfl rfl (cM_tidy l D h a cI cZ _ q7.2  q17 hq18) (cwV 0 hTB tp_gM_tidy rfl rfl rfl ⟨rfl, by decide, by decide, by decide +kernel⟩ ⟨Nat.le_of_ble_eq_true rfl, Nat.le_of_ble_eq_true rfl⟩) rfl hl.1 rfl (Nat.le_of_ble_eq_true rfl) dM_doStep_49 ⟨Nat.zero_le _, Nat.zero_le _⟩ (fun H locs hP hS => ?_)
        have hP : va_P D tp_CL (tp_wM h a cI cZ q17) H := hP
        have hD : va_D (va_A (tp_wM h a cI cZ σ) s.heap.size) (tp_wM h a cI cZ q17) := tp_dre hD tp_wM_fst
        refine lv_iload_n hx hb dM_doStep_52 rfl (lv_at hl 0 rfl) ?_
        obtain rfl := Option.some.inj hr
        exact W.iret (v := 3) hx hb hrt (fun t ht _ => ⟨rfl, by rw [ht]; exact hP, hS.F ht⟩) hS.2.2 dM_doStep_53 hlocks
    · replace hr := (if_neg hc6).symm.trans hr
      refine lv_iconst (v := 2) hx hb dM_doStep_18 (by decide) ?_
      refine lv_goto (tgt := 47) hx hb dM_doStep_19 (by decide) ?_
      refine lv_istore_n hx hb dM_doStep_47 rfl hl (by decide) rfl (fun ls hl => ?_)
      have hl : lv_has ls 2 [(1, .int 2), (0, .ref h)] := hl
      refine lv_aload_n hx hb dM_doStep_48 rfl (lv_at hl 1 rfl) ?_
      obtain ⟨q19, hq20, hr⟩ := Option.bind_eq_some_iff.mp hr
      refine tp_kV (rest := []) S hK hP hD hS hA rfl rfl (cM_tidy l D h a cI cZ _ q4.2  q19 hq20) (cwV 0 hTB tp_gM_tidy rfl rfl rfl ⟨rfl, by decide, by decide, by decide +kernel⟩ ⟨Nat.le_of_ble_eq_true rfl, Nat.le_of_ble_eq_true rfl⟩) rfl hl.1 rfl (Nat.le_of_ble_eq_true rfl) dM_doStep_49 ⟨Nat.zero_le _, Nat.zero_le _⟩ (fun H locs hP hS => ?_)
      have hP : va_P D tp_CL (tp_wM h a cI cZ q19) H := hP
      have hD : va_D (va_A (tp_wM h a cI cZ σ) s.heap.size) (tp_wM h a cI cZ q19) := tp_dre hD tp_wM_fst
      refine lv_iload_n hx hb dM_doStep_52 rfl (lv_at hl 0 rfl) ?_
      obtain rfl := Option.some.inj hr
      exact W.iret (v := 2) hx hb hrt (fun t ht _ => ⟨rfl, by rw [ht]; exact hP, hS.F ht⟩) hS.2.2 dM_doStep_53 hlocks
  · replace hr := (if_neg hc3).symm.trans hr
    refine lv_iconst (v := 1) hx hb dM_doStep_7 (by decide) ?_
    refine lv_goto (tgt := 47) hx hb dM_doStep_8 (by decide) ?_
    refine lv_istore_n hx hb dM_doStep_47 rfl hl (by decide) rfl (fun ls hl => ?_)
    have hl : lv_has ls 2 [(1, .int 1), (0, .ref h)] := hl
    refine lv_aload_n hx hb dM_doStep_48 rfl (lv_at hl 1 rfl) ?_
    obtain ⟨q21, hq22, hr⟩ := Option.bind_eq_some_iff.mp hr
    refine tp_kV (rest := []) S hK hP hD hS hA rfl rfl (cM_tidy l D h a cI cZ _ q1.2  q21 hq22) (cwV 0 hTB tp_gM_tidy rfl rfl rfl ⟨rfl, by decide, by decide, by decide +kernel⟩ ⟨Nat.le_of_ble_eq_true rfl, Nat.le_of_ble_eq_true rfl⟩) rfl hl.1 rfl (Nat.le_of_ble_eq_true rfl) dM_doStep_49 ⟨Nat.zero_le _, Nat.zero_le _⟩ (fun H locs hP hS => ?_)
    have hP : va_P D tp_CL (tp_wM h a cI cZ q21) H := hP
    have hD : va_D (va_A (tp_wM h a cI cZ σ) s.heap.size) (tp_wM h a cI cZ q21) := tp_dre hD tp_wM_fst
    refine lv_iload_n hx hb dM_doStep_52 rfl (lv_at hl 0 rfl) ?_
    obtain rfl := Option.some.inj hr
    exact W.iret (v := 1) hx hb hrt (fun t ht _ => ⟨rfl, by rw [ht]; exact hP, hS.F ht⟩) hS.2.2 dM_doStep_53 hlocks
set_option maxHeartbeats 4000000 in
set_option maxRecDepth 100000 in
theorem cM_step (l : Launch) (D : va_G) (h : Nat) (a : Nat → Nat) (cI cZ : ClassId) (sz : Nat) (σ : tp_St) (r : (Int32 × tp_St)) (hr : fM_step σ = some r) : Met l tp_yM_step (tp_wsT tp_yM_step tp_bM_step 1 (some .int)) { frames := 6, cells := 0, slots := 0, locals := 136 } (tp_PcW D [(cI, .int), (cZ, .boolean)] (tp_wM h a cI cZ σ) sz [.ref h]) (tp_qW (some (.int r.1)) D (tp_wM h a cI cZ r.2) (va_A (tp_wM h a cI cZ σ) sz)) 0 0 (va_A (tp_wM h a cI cZ σ) sz) := by
  refine Met.ofW (cc := tp_bM_step) (maxL := 1) (ret := (some .int)) (by decide) rfl ?_
  intro p e s m args below meth c s₁ B hml hv
  obtain ⟨rfl, hsz, hP, hK, hD0⟩ := hv
  have hx := B.exec
  have hb := B.bytes
  have hrt := B.returns
  have hTB : ∀ w ∈ tp_TB, w.before _ s = true := fun w z => atoms_spec (ws := (tp_wsT tp_yM_step tp_bM_step 1 (some .int))) B.pre w (List.mem_cons_of_mem _ z)
  have hown : s.vm.findClass tp_RM = some m.cls := findClass_of_methodNamed B.named
  have hlocks := B.notSynchronized
  have S : CallFix p m c tp_bM_step 1 s _ tp_TB tp_RM := ⟨hx, hb, hml, hown, hTB⟩
  subst hsz
  have hD : va_D (va_A (tp_wM h a cI cZ σ) s.heap.size) (tp_wM h a cI cZ σ) := hD0.self
  have hA : ∀ q : Nat, s.heap.size ≤ q → va_A (tp_wM h a cI cZ σ) s.heap.size q := fun q z => Or.inr z
  have hS : va_S (va_A (tp_wM h a cI cZ σ) s.heap.size) s.heap s.heap [] := va_S.rf
  have hl := lv_entry ([.ref h]) (n := 1) (Nat.le_of_ble_eq_true rfl)
  rw [lg_entry_eq]
  generalize (lg_sl ([.ref h]) ++ List.replicate (1 - (lg_sl ([.ref h])).length) Slot.unset).toArray = ls at hl ⊢
  have hl : lv_has ls 1 [(0, .ref h)] := hl
  rw [fM_step] at hr
  refine lv_aload_n hx hb dM_step_0 rfl (lv_at hl 0 rfl) ?_
  refine lv_iconst (v := 0) hx hb dM_step_1 (by decide) ?_
  refine tp_ptM0 S hK hP hD hS tp_mM_f0 dM_step_2 (fun H locs hP hD hS => ?_)
  refine lv_aload_n hx hb dM_step_5 rfl (lv_at hl 0 rfl) ?_
  obtain ⟨q1, hq2, hr⟩ := Option.bind_eq_some_iff.mp hr
  refine tp_kV (rest := []) S hK hP hD hS hA rfl rfl (cM_doStep l D h a cI cZ _ (tp_up σ 0 0 0)  q1 hq2) (cwV 0 hTB tp_gM_doStep rfl rfl rfl ⟨rfl, by decide, by decide, by decide +kernel⟩ ⟨Nat.le_of_ble_eq_true rfl, Nat.le_of_ble_eq_true rfl⟩) rfl hl.1 rfl (Nat.le_of_ble_eq_true rfl) dM_step_6 ⟨Nat.zero_le _, Nat.zero_le _⟩ (fun H locs hP hS => ?_)
  have hP : va_P D tp_CL (tp_wM h a cI cZ q1.2) H := hP
  have hD : va_D (va_A (tp_wM h a cI cZ σ) s.heap.size) (tp_wM h a cI cZ q1.2) := tp_dre hD tp_wM_fst
  obtain rfl := Option.some.inj hr
  exact W.iret (v := q1.1) hx hb hrt (fun t ht _ => ⟨rfl, by rw [ht]; exact hP, hS.F ht⟩) hS.2.2 dM_step_9 hlocks
