set_option maxHeartbeats 4000000 in
set_option maxRecDepth 100000 in
theorem cM_newChunk (l : Launch) (D : va_G) (h : Nat) (a : Nat → Nat) (cI cZ : ClassId) (sz : Nat) (σ : tp_St) (r : (Int32 × tp_St)) (hr : fM_newChunk σ = some r) : Met l tp_yM_newChunk (tp_wsT tp_yM_newChunk tp_bM_newChunk 5 (some .int)) { frames := 4, cells := 0, slots := 0, locals := 91 } (tp_PcW D [(cI, .int), (cZ, .boolean)] (tp_wM h a cI cZ σ) sz [.ref h]) (tp_qW (some (.int r.1)) D (tp_wM h a cI cZ r.2) (va_A (tp_wM h a cI cZ σ) sz)) 0 0 (va_A (tp_wM h a cI cZ σ) sz) := by
  refine Met.ofW (cc := tp_bM_newChunk) (maxL := 5) (ret := (some .int)) (by decide) rfl ?_
  intro p e s m args below meth c s₁ B hml hv
  obtain ⟨rfl, hsz, hP, hK, hD0⟩ := hv
  have hx := B.exec
  have hb := B.bytes
  have hrt := B.returns
  have hTB : ∀ w ∈ tp_TB, w.before _ s = true := fun w z => atoms_spec (ws := (tp_wsT tp_yM_newChunk tp_bM_newChunk 5 (some .int))) B.pre w (List.mem_cons_of_mem _ z)
  have hown : s.vm.findClass tp_RM = some m.cls := findClass_of_methodNamed B.named
  have hlocks := B.notSynchronized
  have S : CallFix p m c tp_bM_newChunk 5 s _ tp_TB tp_RM := ⟨hx, hb, hml, hown, hTB⟩
  subst hsz
  have hD : va_D (va_A (tp_wM h a cI cZ σ) s.heap.size) (tp_wM h a cI cZ σ) := hD0.self
  have hA : ∀ q : Nat, s.heap.size ≤ q → va_A (tp_wM h a cI cZ σ) s.heap.size q := fun q z => Or.inr z
  have hS : va_S (va_A (tp_wM h a cI cZ σ) s.heap.size) s.heap s.heap [] := va_S.rf
  have hl := lv_entry ([.ref h]) (n := 5) (Nat.le_of_ble_eq_true rfl)
  rw [lg_entry_eq]
  generalize (lg_sl ([.ref h]) ++ List.replicate (5 - (lg_sl ([.ref h])).length) Slot.unset).toArray = ls at hl ⊢
  have hl : lv_has ls 5 [(0, .ref h)] := hl
  rw [fM_newChunk] at hr
  refine lv_iconst (v := 0) hx hb dM_newChunk_0 (by decide) ?_
  refine lv_istore_n hx hb dM_newChunk_1 rfl hl (by decide) rfl (fun ls hl => ?_)
  have hl : lv_has ls 5 [(1, .int 0), (0, .ref h)] := hl
  have loop2 : ∀ (n2 : Nat) (x1 : Int32) (σ2 : tp_St) (H : Heap) (locs : List Loc) (ls : Array Slot), fM_newChunk_L2  n2 x1 σ2 = some r → lv_has ls 5 [(0, .ref h), (1, .int x1)] → va_P D tp_CL (tp_wM h a cI cZ σ2) H → va_D (va_A (tp_wM h a cI cZ σ) s.heap.size) (tp_wM h a cI cZ σ2) → va_S (va_A (tp_wM h a cI cZ σ) s.heap.size) s.heap H locs → W p l e { frames := 4, cells := 0, slots := 0, locals := 91 } s m (([.ref h] : List Value).toArray) below meth c H locs 0 0 (MQ below (tp_qW (some (.int r.1)) D (tp_wM h a cI cZ r.2) (va_A (tp_wM h a cI cZ σ) s.heap.size)) (([.ref h] : List Value).toArray) s 0 0 (va_A (tp_wM h a cI cZ σ) s.heap.size)) (F0 m 2 ls []) := by
    intro n2
    induction n2 with
    | zero => intro x1 σ2 H locs ls hr hl hP hD hS; exact nomatch (show (none : Option (Int32 × tp_St)) = some r from hr)
    | succ n2 ih2 =>
      intro x1 σ2 H locs ls hr hl hP hD hS
      rw [fM_newChunk_L2] at hr
      refine lv_iload_n hx hb dM_newChunk_2 rfl (lv_at hl 1 rfl) ?_
      refine lv_sipush (v := 400) hx hb dM_newChunk_3 (by decide) ?_
      refine lv_icmp_ge (tgt := 24) hx hb dM_newChunk_6 (by decide) (fun hc1 => ?_) (fun hc1 => ?_)
      · replace hr := (if_pos hc1).symm.trans hr
        refine lv_iload_n hx hb dM_newChunk_24 rfl (lv_at hl 1 rfl) ?_
        refine lv_sipush (v := 400) hx hb dM_newChunk_25 (by decide) ?_
        refine lv_icmp_ne (tgt := 33) hx hb dM_newChunk_28 (by decide) (fun hc2 => ?_) (fun hc2 => ?_)
        · replace hr := (if_neg hc2).symm.trans hr
          refine lv_aload_n hx hb dM_newChunk_33 rfl (lv_at hl 0 rfl) ?_
          refine lv_iconst (v := (-1)) hx hb dM_newChunk_34 (by decide) ?_
          refine lv_iconst (v := (-1)) hx hb dM_newChunk_35 (by decide) ?_
          obtain ⟨q3, hq4, hr⟩ := Option.bind_eq_some_iff.mp hr
          refine tp_kP (rest := []) S hK hP hD rfl rfl (cM_emptiest l D h a cI cZ _ σ2 (-1) (-1) q3 hq4) (cwV 2 hTB tp_gM_emptiest rfl rfl rfl ⟨rfl, by decide, by decide, by decide +kernel⟩ ⟨Nat.le_of_ble_eq_true rfl, Nat.le_of_ble_eq_true rfl⟩) rfl hl.1 rfl (Nat.le_of_ble_eq_true rfl) dM_newChunk_36 ⟨Nat.zero_le _, Nat.zero_le _⟩ ?_
          refine lv_istore_n hx hb dM_newChunk_39 rfl hl (by decide) rfl (fun ls hl => ?_)
          have hl : lv_has ls 5 [(2, .int q3), (0, .ref h), (1, .int x1)] := hl
          refine lv_iload_n hx hb dM_newChunk_40 rfl (lv_at hl 0 rfl) ?_
          refine lv_if_ge (tgt := 48) hx hb dM_newChunk_41 (by decide) (fun hc5 => ?_) (fun hc5 => ?_)
          · replace hr := (if_pos hc5).symm.trans hr
            refine lv_aload_n hx hb dM_newChunk_48 rfl (lv_at hl 1 rfl) ?_
            refine lv_iload_n hx hb dM_newChunk_49 rfl (lv_at hl 0 rfl) ?_
            refine lv_iconst (v := (-1)) hx hb dM_newChunk_50 (by decide) ?_
            obtain ⟨q6, hq7, hr⟩ := Option.bind_eq_some_iff.mp hr
            refine tp_kP (rest := []) S hK hP hD rfl rfl (cM_emptiest l D h a cI cZ _ σ2 q3 (-1) q6 hq7) (cwV 2 hTB tp_gM_emptiest rfl rfl rfl ⟨rfl, by decide, by decide, by decide +kernel⟩ ⟨Nat.le_of_ble_eq_true rfl, Nat.le_of_ble_eq_true rfl⟩) rfl hl.1 rfl (Nat.le_of_ble_eq_true rfl) dM_newChunk_51 ⟨Nat.zero_le _, Nat.zero_le _⟩ ?_
            refine lv_istore_n hx hb dM_newChunk_54 rfl hl (by decide) rfl (fun ls hl => ?_)
            have hl : lv_has ls 5 [(3, .int q6), (2, .int q3), (0, .ref h), (1, .int x1)] := hl
            refine lv_iload_n hx hb dM_newChunk_55 rfl (lv_at hl 1 rfl) ?_
            refine lv_if_lt (tgt := 78) hx hb dM_newChunk_56 (by decide) (fun hc8 => ?_) (fun hc8 => ?_)
            · replace hr := (if_pos hc8).symm.trans hr
              refine lv_iload_n hx hb dM_newChunk_78 rfl (lv_at hl 0 rfl) ?_
              refine lv_if_ge (tgt := 84) hx hb dM_newChunk_79 (by decide) (fun hc9 => ?_) (fun hc9 => ?_)
              · replace hr := (if_pos hc9).symm.trans hr
                refine lv_aload_n hx hb dM_newChunk_84 rfl (lv_at hl 2 rfl) ?_
                refine tp_gtM S hK hP 3 (by decide) (v := .ref (a 3)) tp_mM_f3 rfl dM_newChunk_85 ?_
                refine lv_iload_n hx hb dM_newChunk_88 rfl (lv_at hl 3 rfl) ?_
                refine lv_iconst (v := 1) hx hb dM_newChunk_89 (by decide) ?_
                by_cases hb10 : tp_oob x1 400
                · exact nomatch ((if_pos hb10).symm.trans hr)
                replace hr := (if_neg hb10).symm.trans hr
                refine tp_asM3 S hK hP hD hS hb10 dM_newChunk_90 (fun H locs hP hD hS => ?_)
                refine lv_aload_n hx hb dM_newChunk_91 rfl (lv_at hl 2 rfl) ?_
                refine tp_gtM S hK hP 4 (by decide) (v := .ref (a 4)) tp_mM_f4 rfl dM_newChunk_92 ?_
                refine lv_iload_n hx hb dM_newChunk_95 rfl (lv_at hl 3 rfl) ?_
                refine lv_iconst (v := 1) hx hb dM_newChunk_96 (by decide) ?_
                refine lv_iload_n hx hb dM_newChunk_97 rfl (lv_at hl 1 rfl) ?_
                refine lv_ishl hx hb dM_newChunk_98 ?_
                refine lv_iconst (v := 1) hx hb dM_newChunk_99 (by decide) ?_
                refine lv_iload_n hx hb dM_newChunk_100 rfl (lv_at hl 0 rfl) ?_
                refine lv_ishl hx hb dM_newChunk_101 ?_
                refine lv_iadd hx hb dM_newChunk_102 ?_
                refine tp_asM4 S hK hP hD hS hb10 dM_newChunk_103 (fun H locs hP hD hS => ?_)
                refine lv_iconst (v := 0) hx hb dM_newChunk_104 (by decide) ?_
                refine lv_istore hx hb dM_newChunk_105 hl (by decide) rfl (fun ls hl => ?_)
                have hl : lv_has ls 5 [(4, .int 0), (3, .int q6), (2, .int q3), (0, .ref h), (1, .int x1)] := hl
                have loop107 : ∀ (n107 : Nat) (x4 : Int32) (σ107 : tp_St) (H : Heap) (locs : List Loc) (ls : Array Slot), fM_newChunk_L107 x1 n107 x4 σ107 = some r → lv_has ls 5 [(0, .ref h), (1, .int x1), (4, .int x4)] → va_P D tp_CL (tp_wM h a cI cZ σ107) H → va_D (va_A (tp_wM h a cI cZ σ) s.heap.size) (tp_wM h a cI cZ σ107) → va_S (va_A (tp_wM h a cI cZ σ) s.heap.size) s.heap H locs → W p l e { frames := 4, cells := 0, slots := 0, locals := 91 } s m (([.ref h] : List Value).toArray) below meth c H locs 0 0 (MQ below (tp_qW (some (.int r.1)) D (tp_wM h a cI cZ r.2) (va_A (tp_wM h a cI cZ σ) s.heap.size)) (([.ref h] : List Value).toArray) s 0 0 (va_A (tp_wM h a cI cZ σ) s.heap.size)) (F0 m 107 ls []) := by
                  intro n107
                  induction n107 with
                  | zero => intro x4 σ107 H locs ls hr hl hP hD hS; exact nomatch (show (none : Option (Int32 × tp_St)) = some r from hr)
                  | succ n107 ih107 =>
                    intro x4 σ107 H locs ls hr hl hP hD hS
                    rw [fM_newChunk_L107] at hr
                    refine lv_iload hx hb dM_newChunk_107 (lv_at hl 2 rfl) ?_
                    refine lv_iconst (v := 4) hx hb dM_newChunk_109 (by decide) ?_
                    refine lv_icmp_ge (tgt := 131) hx hb dM_newChunk_110 (by decide) (fun hc11 => ?_) (fun hc11 => ?_)
                    · replace hr := (if_pos hc11).symm.trans hr
                      refine lv_iload_n hx hb dM_newChunk_131 rfl (lv_at hl 1 rfl) ?_
                      obtain rfl := Option.some.inj hr
                      exact W.iret (v := x1) hx hb hrt (fun t ht _ => ⟨rfl, by rw [ht]; exact hP, hS.F ht⟩) hS.2.2 dM_newChunk_132 hlocks
                    · replace hr := (if_neg hc11).symm.trans hr
                      refine lv_aload_n hx hb dM_newChunk_113 rfl (lv_at hl 0 rfl) ?_
                      refine tp_gtM S hK hP 5 (by decide) (v := .ref (a 5)) tp_mM_f5 rfl dM_newChunk_114 ?_
                      refine lv_iconst (v := 4) hx hb dM_newChunk_117 (by decide) ?_
                      refine lv_iload_n hx hb dM_newChunk_118 rfl (lv_at hl 1 rfl) ?_
                      refine lv_imul hx hb dM_newChunk_119 ?_
                      refine lv_iload hx hb dM_newChunk_120 (lv_at hl 2 rfl) ?_
                      refine lv_iadd hx hb dM_newChunk_122 ?_
                      refine lv_iconst (v := 0) hx hb dM_newChunk_123 (by decide) ?_
                      by_cases hb12 : tp_oob ((4 * x1) + x4) 1600
                      · exact nomatch ((if_pos hb12).symm.trans hr)
                      replace hr := (if_neg hb12).symm.trans hr
                      refine tp_asM5 S hK hP hD hS hb12 dM_newChunk_124 (fun H locs hP hD hS => ?_)
                      refine lv_iinc (k := 2) (v := (x4 + 1)) hx hb dM_newChunk_125 hl rfl (tp_ii1 _) (by decide) rfl (fun ls hl => ?_)
                      have hl : lv_has ls 5 [(4, .int (x4 + 1)), (0, .ref h), (1, .int x1)] := hl
                      refine lv_goto (tgt := 107) hx hb dM_newChunk_128 (by decide) ?_
                      exact ih107 (x4 + 1) (tp_up σ107 5 ((4 * x1) + x4).toNatClampNeg 0) H locs ls hr (lv_sub hl [1, 2, 0] rfl) hP hD hS
                exact loop107 5 0 (tp_up (tp_up σ2 3 x1.toNatClampNeg (vp_nar .boolean 1)) 4 x1.toNatClampNeg ((1 <<< (q3 &&& 31)) + (1 <<< (q6 &&& 31)))) _ _ ls hr (lv_sub hl [3, 4, 0] rfl) hP hD hS
              · replace hr := (if_neg hc9).symm.trans hr
                refine lv_iconst (v := (-1)) hx hb dM_newChunk_82 (by decide) ?_
                obtain rfl := Option.some.inj hr
                exact W.iret (v := (-1)) hx hb hrt (fun t ht _ => ⟨rfl, by rw [ht]; exact hP, hS.F ht⟩) hS.2.2 dM_newChunk_83 hlocks
            · replace hr := (if_neg hc8).symm.trans hr
              refine lv_iload_n hx hb dM_newChunk_59 rfl (lv_at hl 0 rfl) ?_
              refine lv_if_ge (tgt := 78) hx hb dM_newChunk_60 (by decide) (fun hc13 => ?_) (fun hc13 => ?_)
              · replace hr := (if_pos hc13).symm.trans hr
                refine lv_iload_n hx hb dM_newChunk_78 rfl (lv_at hl 0 rfl) ?_
                refine lv_if_ge (tgt := 84) hx hb dM_newChunk_79 (by decide) (fun hc14 => ?_) (fun hc14 => ?_)
                · replace hr := (if_pos hc14).symm.trans hr
                  refine lv_aload_n hx hb dM_newChunk_84 rfl (lv_at hl 2 rfl) ?_
                  refine tp_gtM S hK hP 3 (by decide) (v := .ref (a 3)) tp_mM_f3 rfl dM_newChunk_85 ?_
                  refine lv_iload_n hx hb dM_newChunk_88 rfl (lv_at hl 3 rfl) ?_
                  refine lv_iconst (v := 1) hx hb dM_newChunk_89 (by decide) ?_
                  by_cases hb15 : tp_oob x1 400
                  · exact nomatch ((if_pos hb15).symm.trans hr)
                  replace hr := (if_neg hb15).symm.trans hr
                  refine tp_asM3 S hK hP hD hS hb15 dM_newChunk_90 (fun H locs hP hD hS => ?_)
                  refine lv_aload_n hx hb dM_newChunk_91 rfl (lv_at hl 2 rfl) ?_
                  refine tp_gtM S hK hP 4 (by decide) (v := .ref (a 4)) tp_mM_f4 rfl dM_newChunk_92 ?_
                  refine lv_iload_n hx hb dM_newChunk_95 rfl (lv_at hl 3 rfl) ?_
                  refine lv_iconst (v := 1) hx hb dM_newChunk_96 (by decide) ?_
                  refine lv_iload_n hx hb dM_newChunk_97 rfl (lv_at hl 1 rfl) ?_
                  refine lv_ishl hx hb dM_newChunk_98 ?_
                  refine lv_iconst (v := 1) hx hb dM_newChunk_99 (by decide) ?_
                  refine lv_iload_n hx hb dM_newChunk_100 rfl (lv_at hl 0 rfl) ?_
                  refine lv_ishl hx hb dM_newChunk_101 ?_
                  refine lv_iadd hx hb dM_newChunk_102 ?_
                  refine tp_asM4 S hK hP hD hS hb15 dM_newChunk_103 (fun H locs hP hD hS => ?_)
                  refine lv_iconst (v := 0) hx hb dM_newChunk_104 (by decide) ?_
                  refine lv_istore hx hb dM_newChunk_105 hl (by decide) rfl (fun ls hl => ?_)
                  have hl : lv_has ls 5 [(4, .int 0), (3, .int q6), (2, .int q3), (0, .ref h), (1, .int x1)] := hl
                  have loop107 : ∀ (n107 : Nat) (x4 : Int32) (σ107 : tp_St) (H : Heap) (locs : List Loc) (ls : Array Slot), fM_newChunk_L107 x1 n107 x4 σ107 = some r → lv_has ls 5 [(0, .ref h), (1, .int x1), (4, .int x4)] → va_P D tp_CL (tp_wM h a cI cZ σ107) H → va_D (va_A (tp_wM h a cI cZ σ) s.heap.size) (tp_wM h a cI cZ σ107) → va_S (va_A (tp_wM h a cI cZ σ) s.heap.size) s.heap H locs → W p l e { frames := 4, cells := 0, slots := 0, locals := 91 } s m (([.ref h] : List Value).toArray) below meth c H locs 0 0 (MQ below (tp_qW (some (.int r.1)) D (tp_wM h a cI cZ r.2) (va_A (tp_wM h a cI cZ σ) s.heap.size)) (([.ref h] : List Value).toArray) s 0 0 (va_A (tp_wM h a cI cZ σ) s.heap.size)) (F0 m 107 ls []) := by
                    intro n107
                    induction n107 with
                    | zero => intro x4 σ107 H locs ls hr hl hP hD hS; exact nomatch (show (none : Option (Int32 × tp_St)) = some r from hr)
                    | succ n107 ih107 =>
                      intro x4 σ107 H locs ls hr hl hP hD hS
                      rw [fM_newChunk_L107] at hr
                      refine lv_iload hx hb dM_newChunk_107 (lv_at hl 2 rfl) ?_
                      refine lv_iconst (v := 4) hx hb dM_newChunk_109 (by decide) ?_
                      refine lv_icmp_ge (tgt := 131) hx hb dM_newChunk_110 (by decide) (fun hc16 => ?_) (fun hc16 => ?_)
                      · replace hr := (if_pos hc16).symm.trans hr
                        refine lv_iload_n hx hb dM_newChunk_131 rfl (lv_at hl 1 rfl) ?_
                        obtain rfl := Option.some.inj hr
                        exact W.iret (v := x1) hx hb hrt (fun t ht _ => ⟨rfl, by rw [ht]; exact hP, hS.F ht⟩) hS.2.2 dM_newChunk_132 hlocks
                      · replace hr := (if_neg hc16).symm.trans hr
                        refine lv_aload_n hx hb dM_newChunk_113 rfl (lv_at hl 0 rfl) ?_
                        refine tp_gtM S hK hP 5 (by decide) (v := .ref (a 5)) tp_mM_f5 rfl dM_newChunk_114 ?_
                        refine lv_iconst (v := 4) hx hb dM_newChunk_117 (by decide) ?_
                        refine lv_iload_n hx hb dM_newChunk_118 rfl (lv_at hl 1 rfl) ?_
                        refine lv_imul hx hb dM_newChunk_119 ?_
                        refine lv_iload hx hb dM_newChunk_120 (lv_at hl 2 rfl) ?_
                        refine lv_iadd hx hb dM_newChunk_122 ?_
                        refine lv_iconst (v := 0) hx hb dM_newChunk_123 (by decide) ?_
                        by_cases hb17 : tp_oob ((4 * x1) + x4) 1600
                        · exact nomatch ((if_pos hb17).symm.trans hr)
                        replace hr := (if_neg hb17).symm.trans hr
                        refine tp_asM5 S hK hP hD hS hb17 dM_newChunk_124 (fun H locs hP hD hS => ?_)
                        refine lv_iinc (k := 2) (v := (x4 + 1)) hx hb dM_newChunk_125 hl rfl (tp_ii1 _) (by decide) rfl (fun ls hl => ?_)
                        have hl : lv_has ls 5 [(4, .int (x4 + 1)), (0, .ref h), (1, .int x1)] := hl
                        refine lv_goto (tgt := 107) hx hb dM_newChunk_128 (by decide) ?_
                        exact ih107 (x4 + 1) (tp_up σ107 5 ((4 * x1) + x4).toNatClampNeg 0) H locs ls hr (lv_sub hl [1, 2, 0] rfl) hP hD hS
                  exact loop107 5 0 (tp_up (tp_up σ2 3 x1.toNatClampNeg (vp_nar .boolean 1)) 4 x1.toNatClampNeg ((1 <<< (q3 &&& 31)) + (1 <<< (q6 &&& 31)))) _ _ ls hr (lv_sub hl [3, 4, 0] rfl) hP hD hS
                · replace hr := (if_neg hc14).symm.trans hr
                  refine lv_iconst (v := (-1)) hx hb dM_newChunk_82 (by decide) ?_
                  obtain rfl := Option.some.inj hr
                  exact W.iret (v := (-1)) hx hb hrt (fun t ht _ => ⟨rfl, by rw [ht]; exact hP, hS.F ht⟩) hS.2.2 dM_newChunk_83 hlocks
              · replace hr := (if_neg hc13).symm.trans hr
                refine lv_aload_n hx hb dM_newChunk_63 rfl (lv_at hl 2 rfl) ?_
                refine lv_iload_n hx hb dM_newChunk_64 rfl (lv_at hl 1 rfl) ?_
                obtain ⟨q18, hq19, hr⟩ := Option.bind_eq_some_iff.mp hr
                refine tp_kP (rest := []) S hK hP hD rfl rfl (cM_freeOn l D h a cI cZ _ σ2 q3 q18 hq19) (cwV 1 hTB tp_gM_freeOn rfl rfl rfl ⟨rfl, by decide, by decide, by decide +kernel⟩ ⟨Nat.le_of_ble_eq_true rfl, Nat.le_of_ble_eq_true rfl⟩) rfl hl.1 rfl (Nat.le_of_ble_eq_true rfl) dM_newChunk_65 ⟨Nat.zero_le _, Nat.zero_le _⟩ ?_
                refine lv_iconst (v := 2) hx hb dM_newChunk_68 (by decide) ?_
                refine lv_icmp_lt (tgt := 78) hx hb dM_newChunk_69 (by decide) (fun hc20 => ?_) (fun hc20 => ?_)
                · replace hr := (if_pos hc20).symm.trans hr
                  refine lv_iload_n hx hb dM_newChunk_78 rfl (lv_at hl 0 rfl) ?_
                  refine lv_if_ge (tgt := 84) hx hb dM_newChunk_79 (by decide) (fun hc21 => ?_) (fun hc21 => ?_)
                  · replace hr := (if_pos hc21).symm.trans hr
                    refine lv_aload_n hx hb dM_newChunk_84 rfl (lv_at hl 2 rfl) ?_
                    refine tp_gtM S hK hP 3 (by decide) (v := .ref (a 3)) tp_mM_f3 rfl dM_newChunk_85 ?_
                    refine lv_iload_n hx hb dM_newChunk_88 rfl (lv_at hl 3 rfl) ?_
                    refine lv_iconst (v := 1) hx hb dM_newChunk_89 (by decide) ?_
                    by_cases hb22 : tp_oob x1 400
                    · exact nomatch ((if_pos hb22).symm.trans hr)
                    replace hr := (if_neg hb22).symm.trans hr
                    refine tp_asM3 S hK hP hD hS hb22 dM_newChunk_90 (fun H locs hP hD hS => ?_)
                    refine lv_aload_n hx hb dM_newChunk_91 rfl (lv_at hl 2 rfl) ?_
                    refine tp_gtM S hK hP 4 (by decide) (v := .ref (a 4)) tp_mM_f4 rfl dM_newChunk_92 ?_
                    refine lv_iload_n hx hb dM_newChunk_95 rfl (lv_at hl 3 rfl) ?_
                    refine lv_iconst (v := 1) hx hb dM_newChunk_96 (by decide) ?_
                    refine lv_iload_n hx hb dM_newChunk_97 rfl (lv_at hl 1 rfl) ?_
                    refine lv_ishl hx hb dM_newChunk_98 ?_
                    refine lv_iconst (v := 1) hx hb dM_newChunk_99 (by decide) ?_
                    refine lv_iload_n hx hb dM_newChunk_100 rfl (lv_at hl 0 rfl) ?_
                    refine lv_ishl hx hb dM_newChunk_101 ?_
                    refine lv_iadd hx hb dM_newChunk_102 ?_
                    refine tp_asM4 S hK hP hD hS hb22 dM_newChunk_103 (fun H locs hP hD hS => ?_)
                    refine lv_iconst (v := 0) hx hb dM_newChunk_104 (by decide) ?_
                    refine lv_istore hx hb dM_newChunk_105 hl (by decide) rfl (fun ls hl => ?_)
                    have hl : lv_has ls 5 [(4, .int 0), (3, .int q6), (2, .int q3), (0, .ref h), (1, .int x1)] := hl
                    have loop107 : ∀ (n107 : Nat) (x4 : Int32) (σ107 : tp_St) (H : Heap) (locs : List Loc) (ls : Array Slot), fM_newChunk_L107 x1 n107 x4 σ107 = some r → lv_has ls 5 [(0, .ref h), (1, .int x1), (4, .int x4)] → va_P D tp_CL (tp_wM h a cI cZ σ107) H → va_D (va_A (tp_wM h a cI cZ σ) s.heap.size) (tp_wM h a cI cZ σ107) → va_S (va_A (tp_wM h a cI cZ σ) s.heap.size) s.heap H locs → W p l e { frames := 4, cells := 0, slots := 0, locals := 91 } s m (([.ref h] : List Value).toArray) below meth c H locs 0 0 (MQ below (tp_qW (some (.int r.1)) D (tp_wM h a cI cZ r.2) (va_A (tp_wM h a cI cZ σ) s.heap.size)) (([.ref h] : List Value).toArray) s 0 0 (va_A (tp_wM h a cI cZ σ) s.heap.size)) (F0 m 107 ls []) := by
                      intro n107
                      induction n107 with
                      | zero => intro x4 σ107 H locs ls hr hl hP hD hS; exact nomatch (show (none : Option (Int32 × tp_St)) = some r from hr)
                      | succ n107 ih107 =>
                        intro x4 σ107 H locs ls hr hl hP hD hS
                        rw [fM_newChunk_L107] at hr
                        refine lv_iload hx hb dM_newChunk_107 (lv_at hl 2 rfl) ?_
                        refine lv_iconst (v := 4) hx hb dM_newChunk_109 (by decide) ?_
                        refine lv_icmp_ge (tgt := 131) hx hb dM_newChunk_110 (by decide) (fun hc23 => ?_) (fun hc23 => ?_)
                        · replace hr := (if_pos hc23).symm.trans hr
                          refine lv_iload_n hx hb dM_newChunk_131 rfl (lv_at hl 1 rfl) ?_
                          obtain rfl := Option.some.inj hr
                          exact W.iret (v := x1) hx hb hrt (fun t ht _ => ⟨rfl, by rw [ht]; exact hP, hS.F ht⟩) hS.2.2 dM_newChunk_132 hlocks
                        · replace hr := (if_neg hc23).symm.trans hr
                          refine lv_aload_n hx hb dM_newChunk_113 rfl (lv_at hl 0 rfl) ?_
                          refine tp_gtM S hK hP 5 (by decide) (v := .ref (a 5)) tp_mM_f5 rfl dM_newChunk_114 ?_
                          refine lv_iconst (v := 4) hx hb dM_newChunk_117 (by decide) ?_
                          refine lv_iload_n hx hb dM_newChunk_118 rfl (lv_at hl 1 rfl) ?_
                          refine lv_imul hx hb dM_newChunk_119 ?_
                          refine lv_iload hx hb dM_newChunk_120 (lv_at hl 2 rfl) ?_
                          refine lv_iadd hx hb dM_newChunk_122 ?_
                          refine lv_iconst (v := 0) hx hb dM_newChunk_123 (by decide) ?_
                          by_cases hb24 : tp_oob ((4 * x1) + x4) 1600
                          · exact nomatch ((if_pos hb24).symm.trans hr)
                          replace hr := (if_neg hb24).symm.trans hr
                          refine tp_asM5 S hK hP hD hS hb24 dM_newChunk_124 (fun H locs hP hD hS => ?_)
                          refine lv_iinc (k := 2) (v := (x4 + 1)) hx hb dM_newChunk_125 hl rfl (tp_ii1 _) (by decide) rfl (fun ls hl => ?_)
                          have hl : lv_has ls 5 [(4, .int (x4 + 1)), (0, .ref h), (1, .int x1)] := hl
                          refine lv_goto (tgt := 107) hx hb dM_newChunk_128 (by decide) ?_
                          exact ih107 (x4 + 1) (tp_up σ107 5 ((4 * x1) + x4).toNatClampNeg 0) H locs ls hr (lv_sub hl [1, 2, 0] rfl) hP hD hS
                    exact loop107 5 0 (tp_up (tp_up σ2 3 x1.toNatClampNeg (vp_nar .boolean 1)) 4 x1.toNatClampNeg ((1 <<< (q3 &&& 31)) + (1 <<< (q6 &&& 31)))) _ _ ls hr (lv_sub hl [3, 4, 0] rfl) hP hD hS
                  · replace hr := (if_neg hc21).symm.trans hr
                    refine lv_iconst (v := (-1)) hx hb dM_newChunk_82 (by decide) ?_
                    obtain rfl := Option.some.inj hr
                    exact W.iret (v := (-1)) hx hb hrt (fun t ht _ => ⟨rfl, by rw [ht]; exact hP, hS.F ht⟩) hS.2.2 dM_newChunk_83 hlocks
                · replace hr := (if_neg hc20).symm.trans hr
                  refine lv_aload_n hx hb dM_newChunk_72 rfl (lv_at hl 2 rfl) ?_
                  refine lv_iload_n hx hb dM_newChunk_73 rfl (lv_at hl 1 rfl) ?_
                  obtain ⟨q25, hq26, hr⟩ := Option.bind_eq_some_iff.mp hr
                  refine tp_kV (rest := []) S hK hP hD hS hA rfl rfl (cM_makeRoom l D h a cI cZ _ σ2 q3 q25 hq26) (cwV 1 hTB tp_gM_makeRoom rfl rfl rfl ⟨rfl, by decide, by decide, by decide +kernel⟩ ⟨Nat.le_of_ble_eq_true rfl, Nat.le_of_ble_eq_true rfl⟩) rfl hl.1 rfl (Nat.le_of_ble_eq_true rfl) dM_newChunk_74 ⟨Nat.zero_le _, Nat.zero_le _⟩ (fun H locs hP hS => ?_)
                  have hP : va_P D tp_CL (tp_wM h a cI cZ q25.2) H := hP
                  have hD : va_D (va_A (tp_wM h a cI cZ σ) s.heap.size) (tp_wM h a cI cZ q25.2) := tp_dre hD tp_wM_fst
                  refine lv_istore_n hx hb dM_newChunk_77 rfl hl (by decide) rfl (fun ls hl => ?_)
                  have hl : lv_has ls 5 [(3, .int q25.1), (2, .int q3), (0, .ref h), (1, .int x1)] := hl
                  refine lv_iload_n hx hb dM_newChunk_78 rfl (lv_at hl 0 rfl) ?_
                  refine lv_if_ge (tgt := 84) hx hb dM_newChunk_79 (by decide) (fun hc27 => ?_) (fun hc27 => ?_)
                  · replace hr := (if_pos hc27).symm.trans hr
                    refine lv_aload_n hx hb dM_newChunk_84 rfl (lv_at hl 2 rfl) ?_
                    refine tp_gtM S hK hP 3 (by decide) (v := .ref (a 3)) tp_mM_f3 rfl dM_newChunk_85 ?_
                    refine lv_iload_n hx hb dM_newChunk_88 rfl (lv_at hl 3 rfl) ?_
                    refine lv_iconst (v := 1) hx hb dM_newChunk_89 (by decide) ?_
                    by_cases hb28 : tp_oob x1 400
                    · exact nomatch ((if_pos hb28).symm.trans hr)
                    replace hr := (if_neg hb28).symm.trans hr
                    refine tp_asM3 S hK hP hD hS hb28 dM_newChunk_90 (fun H locs hP hD hS => ?_)
                    refine lv_aload_n hx hb dM_newChunk_91 rfl (lv_at hl 2 rfl) ?_
                    refine tp_gtM S hK hP 4 (by decide) (v := .ref (a 4)) tp_mM_f4 rfl dM_newChunk_92 ?_
                    refine lv_iload_n hx hb dM_newChunk_95 rfl (lv_at hl 3 rfl) ?_
                    refine lv_iconst (v := 1) hx hb dM_newChunk_96 (by decide) ?_
                    refine lv_iload_n hx hb dM_newChunk_97 rfl (lv_at hl 1 rfl) ?_
                    refine lv_ishl hx hb dM_newChunk_98 ?_
                    refine lv_iconst (v := 1) hx hb dM_newChunk_99 (by decide) ?_
                    refine lv_iload_n hx hb dM_newChunk_100 rfl (lv_at hl 0 rfl) ?_
                    refine lv_ishl hx hb dM_newChunk_101 ?_
                    refine lv_iadd hx hb dM_newChunk_102 ?_
                    refine tp_asM4 S hK hP hD hS hb28 dM_newChunk_103 (fun H locs hP hD hS => ?_)
                    refine lv_iconst (v := 0) hx hb dM_newChunk_104 (by decide) ?_
                    refine lv_istore hx hb dM_newChunk_105 hl (by decide) rfl (fun ls hl => ?_)
                    have hl : lv_has ls 5 [(4, .int 0), (3, .int q25.1), (2, .int q3), (0, .ref h), (1, .int x1)] := hl
                    have loop107 : ∀ (n107 : Nat) (x4 : Int32) (σ107 : tp_St) (H : Heap) (locs : List Loc) (ls : Array Slot), fM_newChunk_L107 x1 n107 x4 σ107 = some r → lv_has ls 5 [(0, .ref h), (1, .int x1), (4, .int x4)] → va_P D tp_CL (tp_wM h a cI cZ σ107) H → va_D (va_A (tp_wM h a cI cZ σ) s.heap.size) (tp_wM h a cI cZ σ107) → va_S (va_A (tp_wM h a cI cZ σ) s.heap.size) s.heap H locs → W p l e { frames := 4, cells := 0, slots := 0, locals := 91 } s m (([.ref h] : List Value).toArray) below meth c H locs 0 0 (MQ below (tp_qW (some (.int r.1)) D (tp_wM h a cI cZ r.2) (va_A (tp_wM h a cI cZ σ) s.heap.size)) (([.ref h] : List Value).toArray) s 0 0 (va_A (tp_wM h a cI cZ σ) s.heap.size)) (F0 m 107 ls []) := by
                      intro n107
                      induction n107 with
                      | zero => intro x4 σ107 H locs ls hr hl hP hD hS; exact nomatch (show (none : Option (Int32 × tp_St)) = some r from hr)
                      | succ n107 ih107 =>
                        intro x4 σ107 H locs ls hr hl hP hD hS
                        rw [fM_newChunk_L107] at hr
                        refine lv_iload hx hb dM_newChunk_107 (lv_at hl 2 rfl) ?_
                        refine lv_iconst (v := 4) hx hb dM_newChunk_109 (by decide) ?_
                        refine lv_icmp_ge (tgt := 131) hx hb dM_newChunk_110 (by decide) (fun hc29 => ?_) (fun hc29 => ?_)
                        · replace hr := (if_pos hc29).symm.trans hr
                          refine lv_iload_n hx hb dM_newChunk_131 rfl (lv_at hl 1 rfl) ?_
                          obtain rfl := Option.some.inj hr
                          exact W.iret (v := x1) hx hb hrt (fun t ht _ => ⟨rfl, by rw [ht]; exact hP, hS.F ht⟩) hS.2.2 dM_newChunk_132 hlocks
                        · replace hr := (if_neg hc29).symm.trans hr
                          refine lv_aload_n hx hb dM_newChunk_113 rfl (lv_at hl 0 rfl) ?_
                          refine tp_gtM S hK hP 5 (by decide) (v := .ref (a 5)) tp_mM_f5 rfl dM_newChunk_114 ?_
                          refine lv_iconst (v := 4) hx hb dM_newChunk_117 (by decide) ?_
                          refine lv_iload_n hx hb dM_newChunk_118 rfl (lv_at hl 1 rfl) ?_
                          refine lv_imul hx hb dM_newChunk_119 ?_
                          refine lv_iload hx hb dM_newChunk_120 (lv_at hl 2 rfl) ?_
                          refine lv_iadd hx hb dM_newChunk_122 ?_
                          refine lv_iconst (v := 0) hx hb dM_newChunk_123 (by decide) ?_
                          by_cases hb30 : tp_oob ((4 * x1) + x4) 1600
                          · exact nomatch ((if_pos hb30).symm.trans hr)
                          replace hr := (if_neg hb30).symm.trans hr
                          refine tp_asM5 S hK hP hD hS hb30 dM_newChunk_124 (fun H locs hP hD hS => ?_)
                          refine lv_iinc (k := 2) (v := (x4 + 1)) hx hb dM_newChunk_125 hl rfl (tp_ii1 _) (by decide) rfl (fun ls hl => ?_)
                          have hl : lv_has ls 5 [(4, .int (x4 + 1)), (0, .ref h), (1, .int x1)] := hl
                          refine lv_goto (tgt := 107) hx hb dM_newChunk_128 (by decide) ?_
                          exact ih107 (x4 + 1) (tp_up σ107 5 ((4 * x1) + x4).toNatClampNeg 0) H locs ls hr (lv_sub hl [1, 2, 0] rfl) hP hD hS
                    exact loop107 5 0 (tp_up (tp_up q25.2 3 x1.toNatClampNeg (vp_nar .boolean 1)) 4 x1.toNatClampNeg ((1 <<< (q3 &&& 31)) + (1 <<< (q25.1 &&& 31)))) _ _ ls hr (lv_sub hl [3, 4, 0] rfl) hP hD hS
                  · replace hr := (if_neg hc27).symm.trans hr
                    refine lv_iconst (v := (-1)) hx hb dM_newChunk_82 (by decide) ?_
                    obtain rfl := Option.some.inj hr
                    exact W.iret (v := (-1)) hx hb hrt (fun t ht _ => ⟨rfl, by rw [ht]; exact hP, hS.F ht⟩) hS.2.2 dM_newChunk_83 hlocks
          · replace hr := (if_neg hc5).symm.trans hr
            refine lv_iconst (v := (-1)) hx hb dM_newChunk_44 (by decide) ?_
            refine lv_goto (tgt := 54) hx hb dM_newChunk_45 (by decide) ?_
            refine lv_istore_n hx hb dM_newChunk_54 rfl hl (by decide) rfl (fun ls hl => ?_)
            have hl : lv_has ls 5 [(3, .int (-1)), (2, .int q3), (0, .ref h), (1, .int x1)] := hl
            refine lv_iload_n hx hb dM_newChunk_55 rfl (lv_at hl 1 rfl) ?_
            refine lv_if_lt (tgt := 78) hx hb dM_newChunk_56 (by decide) (fun hc31 => ?_) (fun hc31 => ?_)
            · replace hr := (if_pos hc31).symm.trans hr
              refine lv_iload_n hx hb dM_newChunk_78 rfl (lv_at hl 0 rfl) ?_
              refine lv_if_ge (tgt := 84) hx hb dM_newChunk_79 (by decide) (fun z => absurd z (by decide)) (fun _ => ?_)
              refine lv_iconst (v := (-1)) hx hb dM_newChunk_82 (by decide) ?_
              obtain rfl := Option.some.inj hr
              exact W.iret (v := (-1)) hx hb hrt (fun t ht _ => ⟨rfl, by rw [ht]; exact hP, hS.F ht⟩) hS.2.2 dM_newChunk_83 hlocks
            · replace hr := (if_neg hc31).symm.trans hr
              refine lv_iload_n hx hb dM_newChunk_59 rfl (lv_at hl 0 rfl) ?_
              refine lv_if_ge (tgt := 78) hx hb dM_newChunk_60 (by decide) (fun z => absurd z (by decide)) (fun _ => ?_)
              refine lv_aload_n hx hb dM_newChunk_63 rfl (lv_at hl 2 rfl) ?_
              refine lv_iload_n hx hb dM_newChunk_64 rfl (lv_at hl 1 rfl) ?_
              obtain ⟨q32, hq33, hr⟩ := Option.bind_eq_some_iff.mp hr
              refine tp_kP (rest := []) S hK hP hD rfl rfl (cM_freeOn l D h a cI cZ _ σ2 q3 q32 hq33) (cwV 1 hTB tp_gM_freeOn rfl rfl rfl ⟨rfl, by decide, by decide, by decide +kernel⟩ ⟨Nat.le_of_ble_eq_true rfl, Nat.le_of_ble_eq_true rfl⟩) rfl hl.1 rfl (Nat.le_of_ble_eq_true rfl) dM_newChunk_65 ⟨Nat.zero_le _, Nat.zero_le _⟩ ?_
              refine lv_iconst (v := 2) hx hb dM_newChunk_68 (by decide) ?_
              refine lv_icmp_lt (tgt := 78) hx hb dM_newChunk_69 (by decide) (fun hc34 => ?_) (fun hc34 => ?_)
              · replace hr := (if_pos hc34).symm.trans hr
                refine lv_iload_n hx hb dM_newChunk_78 rfl (lv_at hl 0 rfl) ?_
                refine lv_if_ge (tgt := 84) hx hb dM_newChunk_79 (by decide) (fun z => absurd z (by decide)) (fun _ => ?_)
                refine lv_iconst (v := (-1)) hx hb dM_newChunk_82 (by decide) ?_
                obtain rfl := Option.some.inj hr
                exact W.iret (v := (-1)) hx hb hrt (fun t ht _ => ⟨rfl, by rw [ht]; exact hP, hS.F ht⟩) hS.2.2 dM_newChunk_83 hlocks
              · replace hr := (if_neg hc34).symm.trans hr
                refine lv_aload_n hx hb dM_newChunk_72 rfl (lv_at hl 2 rfl) ?_
                refine lv_iload_n hx hb dM_newChunk_73 rfl (lv_at hl 1 rfl) ?_
                obtain ⟨q35, hq36, hr⟩ := Option.bind_eq_some_iff.mp hr
                refine tp_kV (rest := []) S hK hP hD hS hA rfl rfl (cM_makeRoom l D h a cI cZ _ σ2 q3 q35 hq36) (cwV 1 hTB tp_gM_makeRoom rfl rfl rfl ⟨rfl, by decide, by decide, by decide +kernel⟩ ⟨Nat.le_of_ble_eq_true rfl, Nat.le_of_ble_eq_true rfl⟩) rfl hl.1 rfl (Nat.le_of_ble_eq_true rfl) dM_newChunk_74 ⟨Nat.zero_le _, Nat.zero_le _⟩ (fun H locs hP hS => ?_)
                have hP : va_P D tp_CL (tp_wM h a cI cZ q35.2) H := hP
                have hD : va_D (va_A (tp_wM h a cI cZ σ) s.heap.size) (tp_wM h a cI cZ q35.2) := tp_dre hD tp_wM_fst
                refine lv_istore_n hx hb dM_newChunk_77 rfl hl (by decide) rfl (fun ls hl => ?_)
                have hl : lv_has ls 5 [(3, .int q35.1), (2, .int q3), (0, .ref h), (1, .int x1)] := hl
                refine lv_iload_n hx hb dM_newChunk_78 rfl (lv_at hl 0 rfl) ?_
                refine lv_if_ge (tgt := 84) hx hb dM_newChunk_79 (by decide) (fun hc37 => ?_) (fun hc37 => ?_)
                · replace hr := (if_pos hc37).symm.trans hr
                  refine lv_aload_n hx hb dM_newChunk_84 rfl (lv_at hl 2 rfl) ?_
                  refine tp_gtM S hK hP 3 (by decide) (v := .ref (a 3)) tp_mM_f3 rfl dM_newChunk_85 ?_
                  refine lv_iload_n hx hb dM_newChunk_88 rfl (lv_at hl 3 rfl) ?_
                  refine lv_iconst (v := 1) hx hb dM_newChunk_89 (by decide) ?_
                  by_cases hb38 : tp_oob x1 400
                  · exact nomatch ((if_pos hb38).symm.trans hr)
                  replace hr := (if_neg hb38).symm.trans hr
                  refine tp_asM3 S hK hP hD hS hb38 dM_newChunk_90 (fun H locs hP hD hS => ?_)
                  refine lv_aload_n hx hb dM_newChunk_91 rfl (lv_at hl 2 rfl) ?_
                  refine tp_gtM S hK hP 4 (by decide) (v := .ref (a 4)) tp_mM_f4 rfl dM_newChunk_92 ?_
                  refine lv_iload_n hx hb dM_newChunk_95 rfl (lv_at hl 3 rfl) ?_
                  refine lv_iconst (v := 1) hx hb dM_newChunk_96 (by decide) ?_
                  refine lv_iload_n hx hb dM_newChunk_97 rfl (lv_at hl 1 rfl) ?_
                  refine lv_ishl hx hb dM_newChunk_98 ?_
                  refine lv_iconst (v := 1) hx hb dM_newChunk_99 (by decide) ?_
                  refine lv_iload_n hx hb dM_newChunk_100 rfl (lv_at hl 0 rfl) ?_
                  refine lv_ishl hx hb dM_newChunk_101 ?_
                  refine lv_iadd hx hb dM_newChunk_102 ?_
                  refine tp_asM4 S hK hP hD hS hb38 dM_newChunk_103 (fun H locs hP hD hS => ?_)
                  refine lv_iconst (v := 0) hx hb dM_newChunk_104 (by decide) ?_
                  refine lv_istore hx hb dM_newChunk_105 hl (by decide) rfl (fun ls hl => ?_)
                  have hl : lv_has ls 5 [(4, .int 0), (3, .int q35.1), (2, .int q3), (0, .ref h), (1, .int x1)] := hl
                  have loop107 : ∀ (n107 : Nat) (x4 : Int32) (σ107 : tp_St) (H : Heap) (locs : List Loc) (ls : Array Slot), fM_newChunk_L107 x1 n107 x4 σ107 = some r → lv_has ls 5 [(0, .ref h), (1, .int x1), (4, .int x4)] → va_P D tp_CL (tp_wM h a cI cZ σ107) H → va_D (va_A (tp_wM h a cI cZ σ) s.heap.size) (tp_wM h a cI cZ σ107) → va_S (va_A (tp_wM h a cI cZ σ) s.heap.size) s.heap H locs → W p l e { frames := 4, cells := 0, slots := 0, locals := 91 } s m (([.ref h] : List Value).toArray) below meth c H locs 0 0 (MQ below (tp_qW (some (.int r.1)) D (tp_wM h a cI cZ r.2) (va_A (tp_wM h a cI cZ σ) s.heap.size)) (([.ref h] : List Value).toArray) s 0 0 (va_A (tp_wM h a cI cZ σ) s.heap.size)) (F0 m 107 ls []) := by
                    intro n107
                    induction n107 with
                    | zero => intro x4 σ107 H locs ls hr hl hP hD hS; exact nomatch (show (none : Option (Int32 × tp_St)) = some r from hr)
                    | succ n107 ih107 =>
                      intro x4 σ107 H locs ls hr hl hP hD hS
                      rw [fM_newChunk_L107] at hr
                      refine lv_iload hx hb dM_newChunk_107 (lv_at hl 2 rfl) ?_
                      refine lv_iconst (v := 4) hx hb dM_newChunk_109 (by decide) ?_
                      refine lv_icmp_ge (tgt := 131) hx hb dM_newChunk_110 (by decide) (fun hc39 => ?_) (fun hc39 => ?_)
                      · replace hr := (if_pos hc39).symm.trans hr
                        refine lv_iload_n hx hb dM_newChunk_131 rfl (lv_at hl 1 rfl) ?_
                        obtain rfl := Option.some.inj hr
                        exact W.iret (v := x1) hx hb hrt (fun t ht _ => ⟨rfl, by rw [ht]; exact hP, hS.F ht⟩) hS.2.2 dM_newChunk_132 hlocks
                      · replace hr := (if_neg hc39).symm.trans hr
                        refine lv_aload_n hx hb dM_newChunk_113 rfl (lv_at hl 0 rfl) ?_
                        refine tp_gtM S hK hP 5 (by decide) (v := .ref (a 5)) tp_mM_f5 rfl dM_newChunk_114 ?_
                        refine lv_iconst (v := 4) hx hb dM_newChunk_117 (by decide) ?_
                        refine lv_iload_n hx hb dM_newChunk_118 rfl (lv_at hl 1 rfl) ?_
                        refine lv_imul hx hb dM_newChunk_119 ?_
                        refine lv_iload hx hb dM_newChunk_120 (lv_at hl 2 rfl) ?_
                        refine lv_iadd hx hb dM_newChunk_122 ?_
                        refine lv_iconst (v := 0) hx hb dM_newChunk_123 (by decide) ?_
                        by_cases hb40 : tp_oob ((4 * x1) + x4) 1600
                        · exact nomatch ((if_pos hb40).symm.trans hr)
                        replace hr := (if_neg hb40).symm.trans hr
                        refine tp_asM5 S hK hP hD hS hb40 dM_newChunk_124 (fun H locs hP hD hS => ?_)
                        refine lv_iinc (k := 2) (v := (x4 + 1)) hx hb dM_newChunk_125 hl rfl (tp_ii1 _) (by decide) rfl (fun ls hl => ?_)
                        have hl : lv_has ls 5 [(4, .int (x4 + 1)), (0, .ref h), (1, .int x1)] := hl
                        refine lv_goto (tgt := 107) hx hb dM_newChunk_128 (by decide) ?_
                        exact ih107 (x4 + 1) (tp_up σ107 5 ((4 * x1) + x4).toNatClampNeg 0) H locs ls hr (lv_sub hl [1, 2, 0] rfl) hP hD hS
                  exact loop107 5 0 (tp_up (tp_up q35.2 3 x1.toNatClampNeg (vp_nar .boolean 1)) 4 x1.toNatClampNeg ((1 <<< (q3 &&& 31)) + (1 <<< (q35.1 &&& 31)))) _ _ ls hr (lv_sub hl [3, 4, 0] rfl) hP hD hS
                · replace hr := (if_neg hc37).symm.trans hr
                  refine lv_iconst (v := (-1)) hx hb dM_newChunk_82 (by decide) ?_
                  obtain rfl := Option.some.inj hr
                  exact W.iret (v := (-1)) hx hb hrt (fun t ht _ => ⟨rfl, by rw [ht]; exact hP, hS.F ht⟩) hS.2.2 dM_newChunk_83 hlocks
        · replace hr := (if_pos hc2).symm.trans hr
          refine lv_iconst (v := (-1)) hx hb dM_newChunk_31 (by decide) ?_
          obtain rfl := Option.some.inj hr
          exact W.iret (v := (-1)) hx hb hrt (fun t ht _ => ⟨rfl, by rw [ht]; exact hP, hS.F ht⟩) hS.2.2 dM_newChunk_32 hlocks
      · replace hr := (if_neg hc1).symm.trans hr
        refine lv_aload_n hx hb dM_newChunk_9 rfl (lv_at hl 0 rfl) ?_
        refine tp_gtM S hK hP 3 (by decide) (v := .ref (a 3)) tp_mM_f3 rfl dM_newChunk_10 ?_
        refine lv_iload_n hx hb dM_newChunk_13 rfl (lv_at hl 1 rfl) ?_
        by_cases hb41 : tp_oob x1 400
        · exact nomatch ((if_pos hb41).symm.trans hr)
        replace hr := (if_neg hb41).symm.trans hr
        refine va_zald hx hb hK hP 3 1 rfl rfl hb41 dM_newChunk_14 ?_
        refine lv_if_eq (tgt := 24) hx hb dM_newChunk_15 (by decide) (fun hc42 => ?_) (fun hc42 => ?_)
        · replace hr := (if_pos hc42).symm.trans hr
          refine lv_iload_n hx hb dM_newChunk_24 rfl (lv_at hl 1 rfl) ?_
          refine lv_sipush (v := 400) hx hb dM_newChunk_25 (by decide) ?_
          refine lv_icmp_ne (tgt := 33) hx hb dM_newChunk_28 (by decide) (fun hc43 => ?_) (fun hc43 => ?_)
          · replace hr := (if_neg hc43).symm.trans hr
            refine lv_aload_n hx hb dM_newChunk_33 rfl (lv_at hl 0 rfl) ?_
            refine lv_iconst (v := (-1)) hx hb dM_newChunk_34 (by decide) ?_
            refine lv_iconst (v := (-1)) hx hb dM_newChunk_35 (by decide) ?_
            obtain ⟨q44, hq45, hr⟩ := Option.bind_eq_some_iff.mp hr
            refine tp_kP (rest := []) S hK hP hD rfl rfl (cM_emptiest l D h a cI cZ _ σ2 (-1) (-1) q44 hq45) (cwV 2 hTB tp_gM_emptiest rfl rfl rfl ⟨rfl, by decide, by decide, by decide +kernel⟩ ⟨Nat.le_of_ble_eq_true rfl, Nat.le_of_ble_eq_true rfl⟩) rfl hl.1 rfl (Nat.le_of_ble_eq_true rfl) dM_newChunk_36 ⟨Nat.zero_le _, Nat.zero_le _⟩ ?_
            refine lv_istore_n hx hb dM_newChunk_39 rfl hl (by decide) rfl (fun ls hl => ?_)
            have hl : lv_has ls 5 [(2, .int q44), (0, .ref h), (1, .int x1)] := hl
            refine lv_iload_n hx hb dM_newChunk_40 rfl (lv_at hl 0 rfl) ?_
            refine lv_if_ge (tgt := 48) hx hb dM_newChunk_41 (by decide) (fun hc46 => ?_) (fun hc46 => ?_)
            · replace hr := (if_pos hc46).symm.trans hr
              refine lv_aload_n hx hb dM_newChunk_48 rfl (lv_at hl 1 rfl) ?_
              refine lv_iload_n hx hb dM_newChunk_49 rfl (lv_at hl 0 rfl) ?_
              refine lv_iconst (v := (-1)) hx hb dM_newChunk_50 (by decide) ?_
              obtain ⟨q47, hq48, hr⟩ := Option.bind_eq_some_iff.mp hr
              refine tp_kP (rest := []) S hK hP hD rfl rfl (cM_emptiest l D h a cI cZ _ σ2 q44 (-1) q47 hq48) (cwV 2 hTB tp_gM_emptiest rfl rfl rfl ⟨rfl, by decide, by decide, by decide +kernel⟩ ⟨Nat.le_of_ble_eq_true rfl, Nat.le_of_ble_eq_true rfl⟩) rfl hl.1 rfl (Nat.le_of_ble_eq_true rfl) dM_newChunk_51 ⟨Nat.zero_le _, Nat.zero_le _⟩ ?_
              refine lv_istore_n hx hb dM_newChunk_54 rfl hl (by decide) rfl (fun ls hl => ?_)
              have hl : lv_has ls 5 [(3, .int q47), (2, .int q44), (0, .ref h), (1, .int x1)] := hl
              refine lv_iload_n hx hb dM_newChunk_55 rfl (lv_at hl 1 rfl) ?_
              refine lv_if_lt (tgt := 78) hx hb dM_newChunk_56 (by decide) (fun hc49 => ?_) (fun hc49 => ?_)
              · replace hr := (if_pos hc49).symm.trans hr
                refine lv_iload_n hx hb dM_newChunk_78 rfl (lv_at hl 0 rfl) ?_
                refine lv_if_ge (tgt := 84) hx hb dM_newChunk_79 (by decide) (fun hc50 => ?_) (fun hc50 => ?_)
                · replace hr := (if_pos hc50).symm.trans hr
                  refine lv_aload_n hx hb dM_newChunk_84 rfl (lv_at hl 2 rfl) ?_
                  refine tp_gtM S hK hP 3 (by decide) (v := .ref (a 3)) tp_mM_f3 rfl dM_newChunk_85 ?_
                  refine lv_iload_n hx hb dM_newChunk_88 rfl (lv_at hl 3 rfl) ?_
                  refine lv_iconst (v := 1) hx hb dM_newChunk_89 (by decide) ?_
                  refine tp_asM3 S hK hP hD hS hb41 dM_newChunk_90 (fun H locs hP hD hS => ?_)
                  refine lv_aload_n hx hb dM_newChunk_91 rfl (lv_at hl 2 rfl) ?_
                  refine tp_gtM S hK hP 4 (by decide) (v := .ref (a 4)) tp_mM_f4 rfl dM_newChunk_92 ?_
                  refine lv_iload_n hx hb dM_newChunk_95 rfl (lv_at hl 3 rfl) ?_
                  refine lv_iconst (v := 1) hx hb dM_newChunk_96 (by decide) ?_
                  refine lv_iload_n hx hb dM_newChunk_97 rfl (lv_at hl 1 rfl) ?_
                  refine lv_ishl hx hb dM_newChunk_98 ?_
                  refine lv_iconst (v := 1) hx hb dM_newChunk_99 (by decide) ?_
                  refine lv_iload_n hx hb dM_newChunk_100 rfl (lv_at hl 0 rfl) ?_
                  refine lv_ishl hx hb dM_newChunk_101 ?_
                  refine lv_iadd hx hb dM_newChunk_102 ?_
                  refine tp_asM4 S hK hP hD hS hb41 dM_newChunk_103 (fun H locs hP hD hS => ?_)
                  refine lv_iconst (v := 0) hx hb dM_newChunk_104 (by decide) ?_
                  refine lv_istore hx hb dM_newChunk_105 hl (by decide) rfl (fun ls hl => ?_)
                  have hl : lv_has ls 5 [(4, .int 0), (3, .int q47), (2, .int q44), (0, .ref h), (1, .int x1)] := hl
                  have loop107 : ∀ (n107 : Nat) (x4 : Int32) (σ107 : tp_St) (H : Heap) (locs : List Loc) (ls : Array Slot), fM_newChunk_L107 x1 n107 x4 σ107 = some r → lv_has ls 5 [(0, .ref h), (1, .int x1), (4, .int x4)] → va_P D tp_CL (tp_wM h a cI cZ σ107) H → va_D (va_A (tp_wM h a cI cZ σ) s.heap.size) (tp_wM h a cI cZ σ107) → va_S (va_A (tp_wM h a cI cZ σ) s.heap.size) s.heap H locs → W p l e { frames := 4, cells := 0, slots := 0, locals := 91 } s m (([.ref h] : List Value).toArray) below meth c H locs 0 0 (MQ below (tp_qW (some (.int r.1)) D (tp_wM h a cI cZ r.2) (va_A (tp_wM h a cI cZ σ) s.heap.size)) (([.ref h] : List Value).toArray) s 0 0 (va_A (tp_wM h a cI cZ σ) s.heap.size)) (F0 m 107 ls []) := by
                    intro n107
                    induction n107 with
                    | zero => intro x4 σ107 H locs ls hr hl hP hD hS; exact nomatch (show (none : Option (Int32 × tp_St)) = some r from hr)
                    | succ n107 ih107 =>
                      intro x4 σ107 H locs ls hr hl hP hD hS
                      rw [fM_newChunk_L107] at hr
                      refine lv_iload hx hb dM_newChunk_107 (lv_at hl 2 rfl) ?_
                      refine lv_iconst (v := 4) hx hb dM_newChunk_109 (by decide) ?_
                      refine lv_icmp_ge (tgt := 131) hx hb dM_newChunk_110 (by decide) (fun hc51 => ?_) (fun hc51 => ?_)
                      · replace hr := (if_pos hc51).symm.trans hr
                        refine lv_iload_n hx hb dM_newChunk_131 rfl (lv_at hl 1 rfl) ?_
                        obtain rfl := Option.some.inj hr
                        exact W.iret (v := x1) hx hb hrt (fun t ht _ => ⟨rfl, by rw [ht]; exact hP, hS.F ht⟩) hS.2.2 dM_newChunk_132 hlocks
                      · replace hr := (if_neg hc51).symm.trans hr
                        refine lv_aload_n hx hb dM_newChunk_113 rfl (lv_at hl 0 rfl) ?_
                        refine tp_gtM S hK hP 5 (by decide) (v := .ref (a 5)) tp_mM_f5 rfl dM_newChunk_114 ?_
                        refine lv_iconst (v := 4) hx hb dM_newChunk_117 (by decide) ?_
                        refine lv_iload_n hx hb dM_newChunk_118 rfl (lv_at hl 1 rfl) ?_
                        refine lv_imul hx hb dM_newChunk_119 ?_
                        refine lv_iload hx hb dM_newChunk_120 (lv_at hl 2 rfl) ?_
                        refine lv_iadd hx hb dM_newChunk_122 ?_
                        refine lv_iconst (v := 0) hx hb dM_newChunk_123 (by decide) ?_
                        by_cases hb52 : tp_oob ((4 * x1) + x4) 1600
                        · exact nomatch ((if_pos hb52).symm.trans hr)
                        replace hr := (if_neg hb52).symm.trans hr
                        refine tp_asM5 S hK hP hD hS hb52 dM_newChunk_124 (fun H locs hP hD hS => ?_)
                        refine lv_iinc (k := 2) (v := (x4 + 1)) hx hb dM_newChunk_125 hl rfl (tp_ii1 _) (by decide) rfl (fun ls hl => ?_)
                        have hl : lv_has ls 5 [(4, .int (x4 + 1)), (0, .ref h), (1, .int x1)] := hl
                        refine lv_goto (tgt := 107) hx hb dM_newChunk_128 (by decide) ?_
                        exact ih107 (x4 + 1) (tp_up σ107 5 ((4 * x1) + x4).toNatClampNeg 0) H locs ls hr (lv_sub hl [1, 2, 0] rfl) hP hD hS
                  exact loop107 5 0 (tp_up (tp_up σ2 3 x1.toNatClampNeg (vp_nar .boolean 1)) 4 x1.toNatClampNeg ((1 <<< (q44 &&& 31)) + (1 <<< (q47 &&& 31)))) _ _ ls hr (lv_sub hl [3, 4, 0] rfl) hP hD hS
                · replace hr := (if_neg hc50).symm.trans hr
                  refine lv_iconst (v := (-1)) hx hb dM_newChunk_82 (by decide) ?_
                  obtain rfl := Option.some.inj hr
                  exact W.iret (v := (-1)) hx hb hrt (fun t ht _ => ⟨rfl, by rw [ht]; exact hP, hS.F ht⟩) hS.2.2 dM_newChunk_83 hlocks
              · replace hr := (if_neg hc49).symm.trans hr
                refine lv_iload_n hx hb dM_newChunk_59 rfl (lv_at hl 0 rfl) ?_
                refine lv_if_ge (tgt := 78) hx hb dM_newChunk_60 (by decide) (fun hc53 => ?_) (fun hc53 => ?_)
                · replace hr := (if_pos hc53).symm.trans hr
                  refine lv_iload_n hx hb dM_newChunk_78 rfl (lv_at hl 0 rfl) ?_
                  refine lv_if_ge (tgt := 84) hx hb dM_newChunk_79 (by decide) (fun hc54 => ?_) (fun hc54 => ?_)
                  · replace hr := (if_pos hc54).symm.trans hr
                    refine lv_aload_n hx hb dM_newChunk_84 rfl (lv_at hl 2 rfl) ?_
                    refine tp_gtM S hK hP 3 (by decide) (v := .ref (a 3)) tp_mM_f3 rfl dM_newChunk_85 ?_
                    refine lv_iload_n hx hb dM_newChunk_88 rfl (lv_at hl 3 rfl) ?_
                    refine lv_iconst (v := 1) hx hb dM_newChunk_89 (by decide) ?_
                    refine tp_asM3 S hK hP hD hS hb41 dM_newChunk_90 (fun H locs hP hD hS => ?_)
                    refine lv_aload_n hx hb dM_newChunk_91 rfl (lv_at hl 2 rfl) ?_
                    refine tp_gtM S hK hP 4 (by decide) (v := .ref (a 4)) tp_mM_f4 rfl dM_newChunk_92 ?_
                    refine lv_iload_n hx hb dM_newChunk_95 rfl (lv_at hl 3 rfl) ?_
                    refine lv_iconst (v := 1) hx hb dM_newChunk_96 (by decide) ?_
                    refine lv_iload_n hx hb dM_newChunk_97 rfl (lv_at hl 1 rfl) ?_
                    refine lv_ishl hx hb dM_newChunk_98 ?_
                    refine lv_iconst (v := 1) hx hb dM_newChunk_99 (by decide) ?_
                    refine lv_iload_n hx hb dM_newChunk_100 rfl (lv_at hl 0 rfl) ?_
                    refine lv_ishl hx hb dM_newChunk_101 ?_
                    refine lv_iadd hx hb dM_newChunk_102 ?_
                    refine tp_asM4 S hK hP hD hS hb41 dM_newChunk_103 (fun H locs hP hD hS => ?_)
                    refine lv_iconst (v := 0) hx hb dM_newChunk_104 (by decide) ?_
                    refine lv_istore hx hb dM_newChunk_105 hl (by decide) rfl (fun ls hl => ?_)
                    have hl : lv_has ls 5 [(4, .int 0), (3, .int q47), (2, .int q44), (0, .ref h), (1, .int x1)] := hl
                    have loop107 : ∀ (n107 : Nat) (x4 : Int32) (σ107 : tp_St) (H : Heap) (locs : List Loc) (ls : Array Slot), fM_newChunk_L107 x1 n107 x4 σ107 = some r → lv_has ls 5 [(0, .ref h), (1, .int x1), (4, .int x4)] → va_P D tp_CL (tp_wM h a cI cZ σ107) H → va_D (va_A (tp_wM h a cI cZ σ) s.heap.size) (tp_wM h a cI cZ σ107) → va_S (va_A (tp_wM h a cI cZ σ) s.heap.size) s.heap H locs → W p l e { frames := 4, cells := 0, slots := 0, locals := 91 } s m (([.ref h] : List Value).toArray) below meth c H locs 0 0 (MQ below (tp_qW (some (.int r.1)) D (tp_wM h a cI cZ r.2) (va_A (tp_wM h a cI cZ σ) s.heap.size)) (([.ref h] : List Value).toArray) s 0 0 (va_A (tp_wM h a cI cZ σ) s.heap.size)) (F0 m 107 ls []) := by
                      intro n107
                      induction n107 with
                      | zero => intro x4 σ107 H locs ls hr hl hP hD hS; exact nomatch (show (none : Option (Int32 × tp_St)) = some r from hr)
                      | succ n107 ih107 =>
                        intro x4 σ107 H locs ls hr hl hP hD hS
                        rw [fM_newChunk_L107] at hr
                        refine lv_iload hx hb dM_newChunk_107 (lv_at hl 2 rfl) ?_
                        refine lv_iconst (v := 4) hx hb dM_newChunk_109 (by decide) ?_
                        refine lv_icmp_ge (tgt := 131) hx hb dM_newChunk_110 (by decide) (fun hc55 => ?_) (fun hc55 => ?_)
                        · replace hr := (if_pos hc55).symm.trans hr
                          refine lv_iload_n hx hb dM_newChunk_131 rfl (lv_at hl 1 rfl) ?_
                          obtain rfl := Option.some.inj hr
                          exact W.iret (v := x1) hx hb hrt (fun t ht _ => ⟨rfl, by rw [ht]; exact hP, hS.F ht⟩) hS.2.2 dM_newChunk_132 hlocks
                        · replace hr := (if_neg hc55).symm.trans hr
                          refine lv_aload_n hx hb dM_newChunk_113 rfl (lv_at hl 0 rfl) ?_
                          refine tp_gtM S hK hP 5 (by decide) (v := .ref (a 5)) tp_mM_f5 rfl dM_newChunk_114 ?_
                          refine lv_iconst (v := 4) hx hb dM_newChunk_117 (by decide) ?_
                          refine lv_iload_n hx hb dM_newChunk_118 rfl (lv_at hl 1 rfl) ?_
                          refine lv_imul hx hb dM_newChunk_119 ?_
                          refine lv_iload hx hb dM_newChunk_120 (lv_at hl 2 rfl) ?_
                          refine lv_iadd hx hb dM_newChunk_122 ?_
                          refine lv_iconst (v := 0) hx hb dM_newChunk_123 (by decide) ?_
                          by_cases hb56 : tp_oob ((4 * x1) + x4) 1600
                          · exact nomatch ((if_pos hb56).symm.trans hr)
                          replace hr := (if_neg hb56).symm.trans hr
                          refine tp_asM5 S hK hP hD hS hb56 dM_newChunk_124 (fun H locs hP hD hS => ?_)
                          refine lv_iinc (k := 2) (v := (x4 + 1)) hx hb dM_newChunk_125 hl rfl (tp_ii1 _) (by decide) rfl (fun ls hl => ?_)
                          have hl : lv_has ls 5 [(4, .int (x4 + 1)), (0, .ref h), (1, .int x1)] := hl
                          refine lv_goto (tgt := 107) hx hb dM_newChunk_128 (by decide) ?_
                          exact ih107 (x4 + 1) (tp_up σ107 5 ((4 * x1) + x4).toNatClampNeg 0) H locs ls hr (lv_sub hl [1, 2, 0] rfl) hP hD hS
                    exact loop107 5 0 (tp_up (tp_up σ2 3 x1.toNatClampNeg (vp_nar .boolean 1)) 4 x1.toNatClampNeg ((1 <<< (q44 &&& 31)) + (1 <<< (q47 &&& 31)))) _ _ ls hr (lv_sub hl [3, 4, 0] rfl) hP hD hS
                  · replace hr := (if_neg hc54).symm.trans hr
                    refine lv_iconst (v := (-1)) hx hb dM_newChunk_82 (by decide) ?_
                    obtain rfl := Option.some.inj hr
                    exact W.iret (v := (-1)) hx hb hrt (fun t ht _ => ⟨rfl, by rw [ht]; exact hP, hS.F ht⟩) hS.2.2 dM_newChunk_83 hlocks
                · replace hr := (if_neg hc53).symm.trans hr
                  refine lv_aload_n hx hb dM_newChunk_63 rfl (lv_at hl 2 rfl) ?_
                  refine lv_iload_n hx hb dM_newChunk_64 rfl (lv_at hl 1 rfl) ?_
                  obtain ⟨q57, hq58, hr⟩ := Option.bind_eq_some_iff.mp hr
                  refine tp_kP (rest := []) S hK hP hD rfl rfl (cM_freeOn l D h a cI cZ _ σ2 q44 q57 hq58) (cwV 1 hTB tp_gM_freeOn rfl rfl rfl ⟨rfl, by decide, by decide, by decide +kernel⟩ ⟨Nat.le_of_ble_eq_true rfl, Nat.le_of_ble_eq_true rfl⟩) rfl hl.1 rfl (Nat.le_of_ble_eq_true rfl) dM_newChunk_65 ⟨Nat.zero_le _, Nat.zero_le _⟩ ?_
                  refine lv_iconst (v := 2) hx hb dM_newChunk_68 (by decide) ?_
                  refine lv_icmp_lt (tgt := 78) hx hb dM_newChunk_69 (by decide) (fun hc59 => ?_) (fun hc59 => ?_)
                  · replace hr := (if_pos hc59).symm.trans hr
                    refine lv_iload_n hx hb dM_newChunk_78 rfl (lv_at hl 0 rfl) ?_
                    refine lv_if_ge (tgt := 84) hx hb dM_newChunk_79 (by decide) (fun hc60 => ?_) (fun hc60 => ?_)
                    · replace hr := (if_pos hc60).symm.trans hr
                      refine lv_aload_n hx hb dM_newChunk_84 rfl (lv_at hl 2 rfl) ?_
                      refine tp_gtM S hK hP 3 (by decide) (v := .ref (a 3)) tp_mM_f3 rfl dM_newChunk_85 ?_
                      refine lv_iload_n hx hb dM_newChunk_88 rfl (lv_at hl 3 rfl) ?_
                      refine lv_iconst (v := 1) hx hb dM_newChunk_89 (by decide) ?_
                      refine tp_asM3 S hK hP hD hS hb41 dM_newChunk_90 (fun H locs hP hD hS => ?_)
                      refine lv_aload_n hx hb dM_newChunk_91 rfl (lv_at hl 2 rfl) ?_
                      refine tp_gtM S hK hP 4 (by decide) (v := .ref (a 4)) tp_mM_f4 rfl dM_newChunk_92 ?_
                      refine lv_iload_n hx hb dM_newChunk_95 rfl (lv_at hl 3 rfl) ?_
                      refine lv_iconst (v := 1) hx hb dM_newChunk_96 (by decide) ?_
                      refine lv_iload_n hx hb dM_newChunk_97 rfl (lv_at hl 1 rfl) ?_
                      refine lv_ishl hx hb dM_newChunk_98 ?_
                      refine lv_iconst (v := 1) hx hb dM_newChunk_99 (by decide) ?_
                      refine lv_iload_n hx hb dM_newChunk_100 rfl (lv_at hl 0 rfl) ?_
                      refine lv_ishl hx hb dM_newChunk_101 ?_
                      refine lv_iadd hx hb dM_newChunk_102 ?_
                      refine tp_asM4 S hK hP hD hS hb41 dM_newChunk_103 (fun H locs hP hD hS => ?_)
                      refine lv_iconst (v := 0) hx hb dM_newChunk_104 (by decide) ?_
                      refine lv_istore hx hb dM_newChunk_105 hl (by decide) rfl (fun ls hl => ?_)
                      have hl : lv_has ls 5 [(4, .int 0), (3, .int q47), (2, .int q44), (0, .ref h), (1, .int x1)] := hl
                      have loop107 : ∀ (n107 : Nat) (x4 : Int32) (σ107 : tp_St) (H : Heap) (locs : List Loc) (ls : Array Slot), fM_newChunk_L107 x1 n107 x4 σ107 = some r → lv_has ls 5 [(0, .ref h), (1, .int x1), (4, .int x4)] → va_P D tp_CL (tp_wM h a cI cZ σ107) H → va_D (va_A (tp_wM h a cI cZ σ) s.heap.size) (tp_wM h a cI cZ σ107) → va_S (va_A (tp_wM h a cI cZ σ) s.heap.size) s.heap H locs → W p l e { frames := 4, cells := 0, slots := 0, locals := 91 } s m (([.ref h] : List Value).toArray) below meth c H locs 0 0 (MQ below (tp_qW (some (.int r.1)) D (tp_wM h a cI cZ r.2) (va_A (tp_wM h a cI cZ σ) s.heap.size)) (([.ref h] : List Value).toArray) s 0 0 (va_A (tp_wM h a cI cZ σ) s.heap.size)) (F0 m 107 ls []) := by
                        intro n107
                        induction n107 with
                        | zero => intro x4 σ107 H locs ls hr hl hP hD hS; exact nomatch (show (none : Option (Int32 × tp_St)) = some r from hr)
                        | succ n107 ih107 =>
                          intro x4 σ107 H locs ls hr hl hP hD hS
                          rw [fM_newChunk_L107] at hr
                          refine lv_iload hx hb dM_newChunk_107 (lv_at hl 2 rfl) ?_
                          refine lv_iconst (v := 4) hx hb dM_newChunk_109 (by decide) ?_
                          refine lv_icmp_ge (tgt := 131) hx hb dM_newChunk_110 (by decide) (fun hc61 => ?_) (fun hc61 => ?_)
                          · replace hr := (if_pos hc61).symm.trans hr
                            refine lv_iload_n hx hb dM_newChunk_131 rfl (lv_at hl 1 rfl) ?_
                            obtain rfl := Option.some.inj hr
                            exact W.iret (v := x1) hx hb hrt (fun t ht _ => ⟨rfl, by rw [ht]; exact hP, hS.F ht⟩) hS.2.2 dM_newChunk_132 hlocks
                          · replace hr := (if_neg hc61).symm.trans hr
                            refine lv_aload_n hx hb dM_newChunk_113 rfl (lv_at hl 0 rfl) ?_
                            refine tp_gtM S hK hP 5 (by decide) (v := .ref (a 5)) tp_mM_f5 rfl dM_newChunk_114 ?_
                            refine lv_iconst (v := 4) hx hb dM_newChunk_117 (by decide) ?_
                            refine lv_iload_n hx hb dM_newChunk_118 rfl (lv_at hl 1 rfl) ?_
                            refine lv_imul hx hb dM_newChunk_119 ?_
                            refine lv_iload hx hb dM_newChunk_120 (lv_at hl 2 rfl) ?_
                            refine lv_iadd hx hb dM_newChunk_122 ?_
                            refine lv_iconst (v := 0) hx hb dM_newChunk_123 (by decide) ?_
                            by_cases hb62 : tp_oob ((4 * x1) + x4) 1600
                            · exact nomatch ((if_pos hb62).symm.trans hr)
                            replace hr := (if_neg hb62).symm.trans hr
                            refine tp_asM5 S hK hP hD hS hb62 dM_newChunk_124 (fun H locs hP hD hS => ?_)
                            refine lv_iinc (k := 2) (v := (x4 + 1)) hx hb dM_newChunk_125 hl rfl (tp_ii1 _) (by decide) rfl (fun ls hl => ?_)
                            have hl : lv_has ls 5 [(4, .int (x4 + 1)), (0, .ref h), (1, .int x1)] := hl
                            refine lv_goto (tgt := 107) hx hb dM_newChunk_128 (by decide) ?_
                            exact ih107 (x4 + 1) (tp_up σ107 5 ((4 * x1) + x4).toNatClampNeg 0) H locs ls hr (lv_sub hl [1, 2, 0] rfl) hP hD hS
                      exact loop107 5 0 (tp_up (tp_up σ2 3 x1.toNatClampNeg (vp_nar .boolean 1)) 4 x1.toNatClampNeg ((1 <<< (q44 &&& 31)) + (1 <<< (q47 &&& 31)))) _ _ ls hr (lv_sub hl [3, 4, 0] rfl) hP hD hS
                    · replace hr := (if_neg hc60).symm.trans hr
                      refine lv_iconst (v := (-1)) hx hb dM_newChunk_82 (by decide) ?_
                      obtain rfl := Option.some.inj hr
                      exact W.iret (v := (-1)) hx hb hrt (fun t ht _ => ⟨rfl, by rw [ht]; exact hP, hS.F ht⟩) hS.2.2 dM_newChunk_83 hlocks
                  · replace hr := (if_neg hc59).symm.trans hr
                    refine lv_aload_n hx hb dM_newChunk_72 rfl (lv_at hl 2 rfl) ?_
                    refine lv_iload_n hx hb dM_newChunk_73 rfl (lv_at hl 1 rfl) ?_
                    obtain ⟨q63, hq64, hr⟩ := Option.bind_eq_some_iff.mp hr
                    refine tp_kV (rest := []) S hK hP hD hS hA rfl rfl (cM_makeRoom l D h a cI cZ _ σ2 q44 q63 hq64) (cwV 1 hTB tp_gM_makeRoom rfl rfl rfl ⟨rfl, by decide, by decide, by decide +kernel⟩ ⟨Nat.le_of_ble_eq_true rfl, Nat.le_of_ble_eq_true rfl⟩) rfl hl.1 rfl (Nat.le_of_ble_eq_true rfl) dM_newChunk_74 ⟨Nat.zero_le _, Nat.zero_le _⟩ (fun H locs hP hS => ?_)
                    have hP : va_P D tp_CL (tp_wM h a cI cZ q63.2) H := hP
                    have hD : va_D (va_A (tp_wM h a cI cZ σ) s.heap.size) (tp_wM h a cI cZ q63.2) := tp_dre hD tp_wM_fst
                    refine lv_istore_n hx hb dM_newChunk_77 rfl hl (by decide) rfl (fun ls hl => ?_)
                    have hl : lv_has ls 5 [(3, .int q63.1), (2, .int q44), (0, .ref h), (1, .int x1)] := hl
                    refine lv_iload_n hx hb dM_newChunk_78 rfl (lv_at hl 0 rfl) ?_
                    refine lv_if_ge (tgt := 84) hx hb dM_newChunk_79 (by decide) (fun hc65 => ?_) (fun hc65 => ?_)
                    · replace hr := (if_pos hc65).symm.trans hr
                      refine lv_aload_n hx hb dM_newChunk_84 rfl (lv_at hl 2 rfl) ?_
                      refine tp_gtM S hK hP 3 (by decide) (v := .ref (a 3)) tp_mM_f3 rfl dM_newChunk_85 ?_
                      refine lv_iload_n hx hb dM_newChunk_88 rfl (lv_at hl 3 rfl) ?_
                      refine lv_iconst (v := 1) hx hb dM_newChunk_89 (by decide) ?_
                      refine tp_asM3 S hK hP hD hS hb41 dM_newChunk_90 (fun H locs hP hD hS => ?_)
                      refine lv_aload_n hx hb dM_newChunk_91 rfl (lv_at hl 2 rfl) ?_
                      refine tp_gtM S hK hP 4 (by decide) (v := .ref (a 4)) tp_mM_f4 rfl dM_newChunk_92 ?_
                      refine lv_iload_n hx hb dM_newChunk_95 rfl (lv_at hl 3 rfl) ?_
                      refine lv_iconst (v := 1) hx hb dM_newChunk_96 (by decide) ?_
                      refine lv_iload_n hx hb dM_newChunk_97 rfl (lv_at hl 1 rfl) ?_
                      refine lv_ishl hx hb dM_newChunk_98 ?_
                      refine lv_iconst (v := 1) hx hb dM_newChunk_99 (by decide) ?_
                      refine lv_iload_n hx hb dM_newChunk_100 rfl (lv_at hl 0 rfl) ?_
                      refine lv_ishl hx hb dM_newChunk_101 ?_
                      refine lv_iadd hx hb dM_newChunk_102 ?_
                      refine tp_asM4 S hK hP hD hS hb41 dM_newChunk_103 (fun H locs hP hD hS => ?_)
                      refine lv_iconst (v := 0) hx hb dM_newChunk_104 (by decide) ?_
                      refine lv_istore hx hb dM_newChunk_105 hl (by decide) rfl (fun ls hl => ?_)
                      have hl : lv_has ls 5 [(4, .int 0), (3, .int q63.1), (2, .int q44), (0, .ref h), (1, .int x1)] := hl
                      have loop107 : ∀ (n107 : Nat) (x4 : Int32) (σ107 : tp_St) (H : Heap) (locs : List Loc) (ls : Array Slot), fM_newChunk_L107 x1 n107 x4 σ107 = some r → lv_has ls 5 [(0, .ref h), (1, .int x1), (4, .int x4)] → va_P D tp_CL (tp_wM h a cI cZ σ107) H → va_D (va_A (tp_wM h a cI cZ σ) s.heap.size) (tp_wM h a cI cZ σ107) → va_S (va_A (tp_wM h a cI cZ σ) s.heap.size) s.heap H locs → W p l e { frames := 4, cells := 0, slots := 0, locals := 91 } s m (([.ref h] : List Value).toArray) below meth c H locs 0 0 (MQ below (tp_qW (some (.int r.1)) D (tp_wM h a cI cZ r.2) (va_A (tp_wM h a cI cZ σ) s.heap.size)) (([.ref h] : List Value).toArray) s 0 0 (va_A (tp_wM h a cI cZ σ) s.heap.size)) (F0 m 107 ls []) := by
                        intro n107
                        induction n107 with
                        | zero => intro x4 σ107 H locs ls hr hl hP hD hS; exact nomatch (show (none : Option (Int32 × tp_St)) = some r from hr)
                        | succ n107 ih107 =>
                          intro x4 σ107 H locs ls hr hl hP hD hS
                          rw [fM_newChunk_L107] at hr
                          refine lv_iload hx hb dM_newChunk_107 (lv_at hl 2 rfl) ?_
                          refine lv_iconst (v := 4) hx hb dM_newChunk_109 (by decide) ?_
                          refine lv_icmp_ge (tgt := 131) hx hb dM_newChunk_110 (by decide) (fun hc66 => ?_) (fun hc66 => ?_)
                          · replace hr := (if_pos hc66).symm.trans hr
                            refine lv_iload_n hx hb dM_newChunk_131 rfl (lv_at hl 1 rfl) ?_
                            obtain rfl := Option.some.inj hr
                            exact W.iret (v := x1) hx hb hrt (fun t ht _ => ⟨rfl, by rw [ht]; exact hP, hS.F ht⟩) hS.2.2 dM_newChunk_132 hlocks
                          · replace hr := (if_neg hc66).symm.trans hr
                            refine lv_aload_n hx hb dM_newChunk_113 rfl (lv_at hl 0 rfl) ?_
                            refine tp_gtM S hK hP 5 (by decide) (v := .ref (a 5)) tp_mM_f5 rfl dM_newChunk_114 ?_
                            refine lv_iconst (v := 4) hx hb dM_newChunk_117 (by decide) ?_
                            refine lv_iload_n hx hb dM_newChunk_118 rfl (lv_at hl 1 rfl) ?_
                            refine lv_imul hx hb dM_newChunk_119 ?_
                            refine lv_iload hx hb dM_newChunk_120 (lv_at hl 2 rfl) ?_
                            refine lv_iadd hx hb dM_newChunk_122 ?_
                            refine lv_iconst (v := 0) hx hb dM_newChunk_123 (by decide) ?_
                            by_cases hb67 : tp_oob ((4 * x1) + x4) 1600
                            · exact nomatch ((if_pos hb67).symm.trans hr)
                            replace hr := (if_neg hb67).symm.trans hr
                            refine tp_asM5 S hK hP hD hS hb67 dM_newChunk_124 (fun H locs hP hD hS => ?_)
                            refine lv_iinc (k := 2) (v := (x4 + 1)) hx hb dM_newChunk_125 hl rfl (tp_ii1 _) (by decide) rfl (fun ls hl => ?_)
                            have hl : lv_has ls 5 [(4, .int (x4 + 1)), (0, .ref h), (1, .int x1)] := hl
                            refine lv_goto (tgt := 107) hx hb dM_newChunk_128 (by decide) ?_
                            exact ih107 (x4 + 1) (tp_up σ107 5 ((4 * x1) + x4).toNatClampNeg 0) H locs ls hr (lv_sub hl [1, 2, 0] rfl) hP hD hS
                      exact loop107 5 0 (tp_up (tp_up q63.2 3 x1.toNatClampNeg (vp_nar .boolean 1)) 4 x1.toNatClampNeg ((1 <<< (q44 &&& 31)) + (1 <<< (q63.1 &&& 31)))) _ _ ls hr (lv_sub hl [3, 4, 0] rfl) hP hD hS
                    · replace hr := (if_neg hc65).symm.trans hr
                      refine lv_iconst (v := (-1)) hx hb dM_newChunk_82 (by decide) ?_
                      obtain rfl := Option.some.inj hr
                      exact W.iret (v := (-1)) hx hb hrt (fun t ht _ => ⟨rfl, by rw [ht]; exact hP, hS.F ht⟩) hS.2.2 dM_newChunk_83 hlocks
            · replace hr := (if_neg hc46).symm.trans hr
              refine lv_iconst (v := (-1)) hx hb dM_newChunk_44 (by decide) ?_
              refine lv_goto (tgt := 54) hx hb dM_newChunk_45 (by decide) ?_
              refine lv_istore_n hx hb dM_newChunk_54 rfl hl (by decide) rfl (fun ls hl => ?_)
              have hl : lv_has ls 5 [(3, .int (-1)), (2, .int q44), (0, .ref h), (1, .int x1)] := hl
              refine lv_iload_n hx hb dM_newChunk_55 rfl (lv_at hl 1 rfl) ?_
              refine lv_if_lt (tgt := 78) hx hb dM_newChunk_56 (by decide) (fun hc68 => ?_) (fun hc68 => ?_)
              · replace hr := (if_pos hc68).symm.trans hr
                refine lv_iload_n hx hb dM_newChunk_78 rfl (lv_at hl 0 rfl) ?_
                refine lv_if_ge (tgt := 84) hx hb dM_newChunk_79 (by decide) (fun z => absurd z (by decide)) (fun _ => ?_)
                refine lv_iconst (v := (-1)) hx hb dM_newChunk_82 (by decide) ?_
                obtain rfl := Option.some.inj hr
                exact W.iret (v := (-1)) hx hb hrt (fun t ht _ => ⟨rfl, by rw [ht]; exact hP, hS.F ht⟩) hS.2.2 dM_newChunk_83 hlocks
              · replace hr := (if_neg hc68).symm.trans hr
                refine lv_iload_n hx hb dM_newChunk_59 rfl (lv_at hl 0 rfl) ?_
                refine lv_if_ge (tgt := 78) hx hb dM_newChunk_60 (by decide) (fun z => absurd z (by decide)) (fun _ => ?_)
                refine lv_aload_n hx hb dM_newChunk_63 rfl (lv_at hl 2 rfl) ?_
                refine lv_iload_n hx hb dM_newChunk_64 rfl (lv_at hl 1 rfl) ?_
                obtain ⟨q69, hq70, hr⟩ := Option.bind_eq_some_iff.mp hr
                refine tp_kP (rest := []) S hK hP hD rfl rfl (cM_freeOn l D h a cI cZ _ σ2 q44 q69 hq70) (cwV 1 hTB tp_gM_freeOn rfl rfl rfl ⟨rfl, by decide, by decide, by decide +kernel⟩ ⟨Nat.le_of_ble_eq_true rfl, Nat.le_of_ble_eq_true rfl⟩) rfl hl.1 rfl (Nat.le_of_ble_eq_true rfl) dM_newChunk_65 ⟨Nat.zero_le _, Nat.zero_le _⟩ ?_
                refine lv_iconst (v := 2) hx hb dM_newChunk_68 (by decide) ?_
                refine lv_icmp_lt (tgt := 78) hx hb dM_newChunk_69 (by decide) (fun hc71 => ?_) (fun hc71 => ?_)
                · replace hr := (if_pos hc71).symm.trans hr
                  refine lv_iload_n hx hb dM_newChunk_78 rfl (lv_at hl 0 rfl) ?_
                  refine lv_if_ge (tgt := 84) hx hb dM_newChunk_79 (by decide) (fun z => absurd z (by decide)) (fun _ => ?_)
                  refine lv_iconst (v := (-1)) hx hb dM_newChunk_82 (by decide) ?_
                  obtain rfl := Option.some.inj hr
                  exact W.iret (v := (-1)) hx hb hrt (fun t ht _ => ⟨rfl, by rw [ht]; exact hP, hS.F ht⟩) hS.2.2 dM_newChunk_83 hlocks
                · replace hr := (if_neg hc71).symm.trans hr
                  refine lv_aload_n hx hb dM_newChunk_72 rfl (lv_at hl 2 rfl) ?_
                  refine lv_iload_n hx hb dM_newChunk_73 rfl (lv_at hl 1 rfl) ?_
                  obtain ⟨q72, hq73, hr⟩ := Option.bind_eq_some_iff.mp hr
                  refine tp_kV (rest := []) S hK hP hD hS hA rfl rfl (cM_makeRoom l D h a cI cZ _ σ2 q44 q72 hq73) (cwV 1 hTB tp_gM_makeRoom rfl rfl rfl ⟨rfl, by decide, by decide, by decide +kernel⟩ ⟨Nat.le_of_ble_eq_true rfl, Nat.le_of_ble_eq_true rfl⟩) rfl hl.1 rfl (Nat.le_of_ble_eq_true rfl) dM_newChunk_74 ⟨Nat.zero_le _, Nat.zero_le _⟩ (fun H locs hP hS => ?_)
                  have hP : va_P D tp_CL (tp_wM h a cI cZ q72.2) H := hP
                  have hD : va_D (va_A (tp_wM h a cI cZ σ) s.heap.size) (tp_wM h a cI cZ q72.2) := tp_dre hD tp_wM_fst
                  refine lv_istore_n hx hb dM_newChunk_77 rfl hl (by decide) rfl (fun ls hl => ?_)
                  have hl : lv_has ls 5 [(3, .int q72.1), (2, .int q44), (0, .ref h), (1, .int x1)] := hl
                  refine lv_iload_n hx hb dM_newChunk_78 rfl (lv_at hl 0 rfl) ?_
                  refine lv_if_ge (tgt := 84) hx hb dM_newChunk_79 (by decide) (fun hc74 => ?_) (fun hc74 => ?_)
                  · replace hr := (if_pos hc74).symm.trans hr
                    refine lv_aload_n hx hb dM_newChunk_84 rfl (lv_at hl 2 rfl) ?_
                    refine tp_gtM S hK hP 3 (by decide) (v := .ref (a 3)) tp_mM_f3 rfl dM_newChunk_85 ?_
                    refine lv_iload_n hx hb dM_newChunk_88 rfl (lv_at hl 3 rfl) ?_
                    refine lv_iconst (v := 1) hx hb dM_newChunk_89 (by decide) ?_
                    refine tp_asM3 S hK hP hD hS hb41 dM_newChunk_90 (fun H locs hP hD hS => ?_)
                    refine lv_aload_n hx hb dM_newChunk_91 rfl (lv_at hl 2 rfl) ?_
                    refine tp_gtM S hK hP 4 (by decide) (v := .ref (a 4)) tp_mM_f4 rfl dM_newChunk_92 ?_
                    refine lv_iload_n hx hb dM_newChunk_95 rfl (lv_at hl 3 rfl) ?_
                    refine lv_iconst (v := 1) hx hb dM_newChunk_96 (by decide) ?_
                    refine lv_iload_n hx hb dM_newChunk_97 rfl (lv_at hl 1 rfl) ?_
                    refine lv_ishl hx hb dM_newChunk_98 ?_
                    refine lv_iconst (v := 1) hx hb dM_newChunk_99 (by decide) ?_
                    refine lv_iload_n hx hb dM_newChunk_100 rfl (lv_at hl 0 rfl) ?_
                    refine lv_ishl hx hb dM_newChunk_101 ?_
                    refine lv_iadd hx hb dM_newChunk_102 ?_
                    refine tp_asM4 S hK hP hD hS hb41 dM_newChunk_103 (fun H locs hP hD hS => ?_)
                    refine lv_iconst (v := 0) hx hb dM_newChunk_104 (by decide) ?_
                    refine lv_istore hx hb dM_newChunk_105 hl (by decide) rfl (fun ls hl => ?_)
                    have hl : lv_has ls 5 [(4, .int 0), (3, .int q72.1), (2, .int q44), (0, .ref h), (1, .int x1)] := hl
                    have loop107 : ∀ (n107 : Nat) (x4 : Int32) (σ107 : tp_St) (H : Heap) (locs : List Loc) (ls : Array Slot), fM_newChunk_L107 x1 n107 x4 σ107 = some r → lv_has ls 5 [(0, .ref h), (1, .int x1), (4, .int x4)] → va_P D tp_CL (tp_wM h a cI cZ σ107) H → va_D (va_A (tp_wM h a cI cZ σ) s.heap.size) (tp_wM h a cI cZ σ107) → va_S (va_A (tp_wM h a cI cZ σ) s.heap.size) s.heap H locs → W p l e { frames := 4, cells := 0, slots := 0, locals := 91 } s m (([.ref h] : List Value).toArray) below meth c H locs 0 0 (MQ below (tp_qW (some (.int r.1)) D (tp_wM h a cI cZ r.2) (va_A (tp_wM h a cI cZ σ) s.heap.size)) (([.ref h] : List Value).toArray) s 0 0 (va_A (tp_wM h a cI cZ σ) s.heap.size)) (F0 m 107 ls []) := by
                      intro n107
                      induction n107 with
                      | zero => intro x4 σ107 H locs ls hr hl hP hD hS; exact nomatch (show (none : Option (Int32 × tp_St)) = some r from hr)
                      | succ n107 ih107 =>
                        intro x4 σ107 H locs ls hr hl hP hD hS
                        rw [fM_newChunk_L107] at hr
                        refine lv_iload hx hb dM_newChunk_107 (lv_at hl 2 rfl) ?_
                        refine lv_iconst (v := 4) hx hb dM_newChunk_109 (by decide) ?_
                        refine lv_icmp_ge (tgt := 131) hx hb dM_newChunk_110 (by decide) (fun hc75 => ?_) (fun hc75 => ?_)
                        · replace hr := (if_pos hc75).symm.trans hr
                          refine lv_iload_n hx hb dM_newChunk_131 rfl (lv_at hl 1 rfl) ?_
                          obtain rfl := Option.some.inj hr
                          exact W.iret (v := x1) hx hb hrt (fun t ht _ => ⟨rfl, by rw [ht]; exact hP, hS.F ht⟩) hS.2.2 dM_newChunk_132 hlocks
                        · replace hr := (if_neg hc75).symm.trans hr
                          refine lv_aload_n hx hb dM_newChunk_113 rfl (lv_at hl 0 rfl) ?_
                          refine tp_gtM S hK hP 5 (by decide) (v := .ref (a 5)) tp_mM_f5 rfl dM_newChunk_114 ?_
                          refine lv_iconst (v := 4) hx hb dM_newChunk_117 (by decide) ?_
                          refine lv_iload_n hx hb dM_newChunk_118 rfl (lv_at hl 1 rfl) ?_
                          refine lv_imul hx hb dM_newChunk_119 ?_
                          refine lv_iload hx hb dM_newChunk_120 (lv_at hl 2 rfl) ?_
                          refine lv_iadd hx hb dM_newChunk_122 ?_
                          refine lv_iconst (v := 0) hx hb dM_newChunk_123 (by decide) ?_
                          by_cases hb76 : tp_oob ((4 * x1) + x4) 1600
                          · exact nomatch ((if_pos hb76).symm.trans hr)
                          replace hr := (if_neg hb76).symm.trans hr
                          refine tp_asM5 S hK hP hD hS hb76 dM_newChunk_124 (fun H locs hP hD hS => ?_)
                          refine lv_iinc (k := 2) (v := (x4 + 1)) hx hb dM_newChunk_125 hl rfl (tp_ii1 _) (by decide) rfl (fun ls hl => ?_)
                          have hl : lv_has ls 5 [(4, .int (x4 + 1)), (0, .ref h), (1, .int x1)] := hl
                          refine lv_goto (tgt := 107) hx hb dM_newChunk_128 (by decide) ?_
                          exact ih107 (x4 + 1) (tp_up σ107 5 ((4 * x1) + x4).toNatClampNeg 0) H locs ls hr (lv_sub hl [1, 2, 0] rfl) hP hD hS
                    exact loop107 5 0 (tp_up (tp_up q72.2 3 x1.toNatClampNeg (vp_nar .boolean 1)) 4 x1.toNatClampNeg ((1 <<< (q44 &&& 31)) + (1 <<< (q72.1 &&& 31)))) _ _ ls hr (lv_sub hl [3, 4, 0] rfl) hP hD hS
                  · replace hr := (if_neg hc74).symm.trans hr
                    refine lv_iconst (v := (-1)) hx hb dM_newChunk_82 (by decide) ?_
                    obtain rfl := Option.some.inj hr
                    exact W.iret (v := (-1)) hx hb hrt (fun t ht _ => ⟨rfl, by rw [ht]; exact hP, hS.F ht⟩) hS.2.2 dM_newChunk_83 hlocks
          · replace hr := (if_pos hc43).symm.trans hr
            refine lv_iconst (v := (-1)) hx hb dM_newChunk_31 (by decide) ?_
            obtain rfl := Option.some.inj hr
            exact W.iret (v := (-1)) hx hb hrt (fun t ht _ => ⟨rfl, by rw [ht]; exact hP, hS.F ht⟩) hS.2.2 dM_newChunk_32 hlocks
        · replace hr := (if_neg hc42).symm.trans hr
          refine lv_iinc (k := 1) (v := (x1 + 1)) hx hb dM_newChunk_18 hl rfl (tp_ii1 _) (by decide) rfl (fun ls hl => ?_)
          have hl : lv_has ls 5 [(1, .int (x1 + 1)), (0, .ref h)] := hl
          refine lv_goto (tgt := 2) hx hb dM_newChunk_21 (by decide) ?_
          exact ih2 (x1 + 1) σ2 H locs ls hr (lv_sub hl [1, 0] rfl) hP hD hS
  exact loop2 401 0 σ _ _ ls hr (lv_sub hl [1, 0] rfl) hP hD hS
