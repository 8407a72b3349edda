set_option maxHeartbeats 4000000 in
set_option maxRecDepth 100000 in
theorem cM_count (l : Launch) (D : va_G) (h : Nat) (a : Nat → Nat) (cI cZ : ClassId) (sz : Nat) (σ : tp_St) (x1 : Int32) (r : (Int32 × tp_St)) (hr : fM_count σ x1 = some r) : Met l tp_yM_count (tp_wsT tp_yM_count tp_bM_count 5 (some .int)) { frames := 4, cells := 0, slots := 0, locals := 88 } (tp_PcW D [(cI, .int), (cZ, .boolean)] (tp_wM h a cI cZ σ) sz [.ref h, .int x1]) (tp_qW (some (.int r.1)) D (tp_wM h a cI cZ r.2) (va_A (tp_wM h a cI cZ σ) sz)) 0 0 (va_A (tp_wM h a cI cZ σ) sz) := by
  refine Met.ofW (cc := tp_bM_count) (maxL := 5) (ret := (some .int)) (by decide) rfl ?_
  intro p e s m args below meth c s₁ B hml hv
  obtain ⟨rfl, hsz, hP, hK, hD0⟩ := hv
  have hx := B.exec
  have hb := B.bytes
  have hrt := B.returns
  have hTB : ∀ w ∈ tp_TB, w.before _ s = true := fun w z => atoms_spec (ws := (tp_wsT tp_yM_count tp_bM_count 5 (some .int))) B.pre w (List.mem_cons_of_mem _ z)
  have hown : s.vm.findClass tp_RM = some m.cls := findClass_of_methodNamed B.named
  have hlocks := B.notSynchronized
  have S : CallFix p m c tp_bM_count 5 s _ tp_TB tp_RM := ⟨hx, hb, hml, hown, hTB⟩
  subst hsz
  have hD : va_D (va_A (tp_wM h a cI cZ σ) s.heap.size) (tp_wM h a cI cZ σ) := hD0.self
  have hA : ∀ q : Nat, s.heap.size ≤ q → va_A (tp_wM h a cI cZ σ) s.heap.size q := fun q z => Or.inr z
  have hS : va_S (va_A (tp_wM h a cI cZ σ) s.heap.size) s.heap s.heap [] := va_S.rf
  have hl := lv_entry ([.ref h, .int x1]) (n := 5) (Nat.le_of_ble_eq_true rfl)
  rw [lg_entry_eq]
  generalize (lg_sl ([.ref h, .int x1]) ++ List.replicate (5 - (lg_sl ([.ref h, .int x1])).length) Slot.unset).toArray = ls at hl ⊢
  have hl : lv_has ls 5 [(0, .ref h), (1, .int x1)] := hl
  rw [fM_count] at hr
  refine lv_aload_n hx hb dM_count_0 rfl (lv_at hl 0 rfl) ?_
  refine lv_iload_n hx hb dM_count_1 rfl (lv_at hl 1 rfl) ?_
  refine lv_if_lt (tgt := 15) hx hb dM_count_2 (by decide) (fun hc1 => ?_) (fun hc1 => ?_)
  · replace hr := (if_pos hc1).symm.trans hr
    refine lv_iconst (v := 1) hx hb dM_count_15 (by decide) ?_
    refine tp_ptM0 S hK hP hD hS tp_mM_f0 dM_count_16 (fun H locs hP hD hS => ?_)
    refine lv_aload_n hx hb dM_count_19 rfl (lv_at hl 0 rfl) ?_
    refine tp_gtM S hK hP 0 (by decide) (v := .int 1) tp_mM_f0 rfl dM_count_20 ?_
    refine lv_if_le (tgt := 28) hx hb dM_count_23 (by decide) (fun z => absurd z (by decide)) (fun _ => ?_)
    refine lv_iconst (v := 0) hx hb dM_count_26 (by decide) ?_
    obtain rfl := Option.some.inj hr
    exact W.iret (v := 0) hx hb hrt (fun t ht _ => ⟨rfl, by rw [ht]; exact hP, hS.F ht⟩) hS.2.2 dM_count_27 hlocks
  · replace hr := (if_neg hc1).symm.trans hr
    refine lv_iload_n hx hb dM_count_5 rfl (lv_at hl 1 rfl) ?_
    refine lv_bipush (v := 6) hx hb dM_count_6 (by decide) ?_
    refine lv_icmp_gt (tgt := 15) hx hb dM_count_8 (by decide) (fun hc2 => ?_) (fun hc2 => ?_)
    · replace hr := (if_pos hc2).symm.trans hr
      refine lv_iconst (v := 1) hx hb dM_count_15 (by decide) ?_
      refine tp_ptM0 S hK hP hD hS tp_mM_f0 dM_count_16 (fun H locs hP hD hS => ?_)
      refine lv_aload_n hx hb dM_count_19 rfl (lv_at hl 0 rfl) ?_
      refine tp_gtM S hK hP 0 (by decide) (v := .int 1) tp_mM_f0 rfl dM_count_20 ?_
      refine lv_if_le (tgt := 28) hx hb dM_count_23 (by decide) (fun z => absurd z (by decide)) (fun _ => ?_)
      refine lv_iconst (v := 0) hx hb dM_count_26 (by decide) ?_
      obtain rfl := Option.some.inj hr
      exact W.iret (v := 0) hx hb hrt (fun t ht _ => ⟨rfl, by rw [ht]; exact hP, hS.F ht⟩) hS.2.2 dM_count_27 hlocks
    · replace hr := (if_neg hc2).symm.trans hr
      refine lv_iconst (v := 0) hx hb dM_count_11 (by decide) ?_
      refine lv_goto (tgt := 16) hx hb dM_count_12 (by decide) ?_
      refine tp_ptM0 S hK hP hD hS tp_mM_f0 dM_count_16 (fun H locs hP hD hS => ?_)
      refine lv_aload_n hx hb dM_count_19 rfl (lv_at hl 0 rfl) ?_
      refine tp_gtM S hK hP 0 (by decide) (v := .int 0) tp_mM_f0 rfl dM_count_20 ?_
      refine lv_if_le (tgt := 28) hx hb dM_count_23 (by decide) (fun _ => ?_) (fun z => absurd (by decide) z)
      refine lv_iconst (v := 0) hx hb dM_count_28 (by decide) ?_
      refine lv_istore_n hx hb dM_count_29 rfl hl (by decide) rfl (fun ls hl => ?_)
      have hl : lv_has ls 5 [(2, .int 0), (0, .ref h), (1, .int x1)] := hl
      refine lv_iconst (v := 0) hx hb dM_count_30 (by decide) ?_
      refine lv_istore_n hx hb dM_count_31 rfl hl (by decide) rfl (fun ls hl => ?_)
      have hl : lv_has ls 5 [(3, .int 0), (2, .int 0), (0, .ref h), (1, .int x1)] := hl
      refine lv_iconst (v := 0) hx hb dM_count_32 (by decide) ?_
      refine lv_istore hx hb dM_count_33 hl (by decide) rfl (fun ls hl => ?_)
      have hl : lv_has ls 5 [(4, .int 0), (3, .int 0), (2, .int 0), (0, .ref h), (1, .int x1)] := hl
      have loop35 : ∀ (n35 : Nat) (x2 : Int32) (x3 : Int32) (x4 : Int32) (σ35 : tp_St) (H : Heap) (locs : List Loc) (ls : Array Slot), fM_count_L35 x1 n35 x2 x3 x4 σ35 = some r → lv_has ls 5 [(0, .ref h), (1, .int x1), (2, .int x2), (3, .int x3), (4, .int x4)] → va_P D tp_CL (tp_wM h a cI cZ σ35) H → va_D (va_A (tp_wM h a cI cZ σ) s.heap.size) (tp_wM h a cI cZ σ35) → va_S (va_A (tp_wM h a cI cZ σ) s.heap.size) s.heap H locs → W p l e { frames := 4, cells := 0, slots := 0, locals := 88 } s m (([.ref h, .int x1] : List Value).toArray) below meth c H locs 0 0 (MQ below (tp_qW (some (.int r.1)) D (tp_wM h a cI cZ r.2) (va_A (tp_wM h a cI cZ σ) s.heap.size)) (([.ref h, .int x1] : List Value).toArray) s 0 0 (va_A (tp_wM h a cI cZ σ) s.heap.size)) (F0 m 35 ls []) := by
        intro n35
        induction n35 with
        | zero => intro x2 x3 x4 σ35 H locs ls hr hl hP hD hS; exact nomatch (show (none : Option (Int32 × tp_St)) = some r from hr)
        | succ n35 ih35 =>
          intro x2 x3 x4 σ35 H locs ls hr hl hP hD hS
          rw [fM_count_L35] at hr
          refine lv_iload hx hb dM_count_35 (lv_at hl 4 rfl) ?_
          refine lv_bipush (v := 12) hx hb dM_count_37 (by decide) ?_
          refine lv_icmp_ge (tgt := 99) hx hb dM_count_39 (by decide) (fun hc3 => ?_) (fun hc3 => ?_)
          · replace hr := (if_pos hc3).symm.trans hr
            refine lv_iload_n hx hb dM_count_99 rfl (lv_at hl 1 rfl) ?_
            refine lv_if_ne (tgt := 107) hx hb dM_count_100 (by decide) (fun hc4 => ?_) (fun hc4 => ?_)
            · replace hr := (if_neg hc4).symm.trans hr
              refine lv_iload_n hx hb dM_count_107 rfl (lv_at hl 1 rfl) ?_
              refine lv_iconst (v := 1) hx hb dM_count_108 (by decide) ?_
              refine lv_icmp_ne (tgt := 119) hx hb dM_count_109 (by decide) (fun hc5 => ?_) (fun hc5 => ?_)
              · replace hr := (if_neg hc5).symm.trans hr
                refine lv_iload_n hx hb dM_count_119 rfl (lv_at hl 1 rfl) ?_
                refine lv_iconst (v := 2) hx hb dM_count_120 (by decide) ?_
                refine lv_icmp_ne (tgt := 132) hx hb dM_count_121 (by decide) (fun hc6 => ?_) (fun hc6 => ?_)
                · replace hr := (if_neg hc6).symm.trans hr
                  refine lv_iload_n hx hb dM_count_132 rfl (lv_at hl 1 rfl) ?_
                  refine lv_iconst (v := 3) hx hb dM_count_133 (by decide) ?_
                  refine lv_icmp_ne (tgt := 145) hx hb dM_count_134 (by decide) (fun hc7 => ?_) (fun hc7 => ?_)
                  · replace hr := (if_neg hc7).symm.trans hr
                    refine lv_iload_n hx hb dM_count_145 rfl (lv_at hl 1 rfl) ?_
                    refine lv_iconst (v := 4) hx hb dM_count_146 (by decide) ?_
                    refine lv_icmp_ne (tgt := 158) hx hb dM_count_147 (by decide) (fun hc8 => ?_) (fun hc8 => ?_)
                    · replace hr := (if_neg hc8).symm.trans hr
                      refine lv_iload_n hx hb dM_count_158 rfl (lv_at hl 1 rfl) ?_
                      refine lv_iconst (v := 5) hx hb dM_count_159 (by decide) ?_
                      refine lv_icmp_ne (tgt := 167) hx hb dM_count_160 (by decide) (fun hc9 => ?_) (fun hc9 => ?_)
                      · replace hr := (if_neg hc9).symm.trans hr
                        refine lv_aload_n hx hb dM_count_167 rfl (lv_at hl 0 rfl) ?_
                        refine tp_gtM S hK hP 6 (by decide) (v := .int (σ35 6 0)) tp_mM_f6 rfl dM_count_168 ?_
                        obtain rfl := Option.some.inj hr
                        exact W.iret (v := (σ35 6 0)) hx hb hrt (fun t ht _ => ⟨rfl, by rw [ht]; exact hP, hS.F ht⟩) hS.2.2 dM_count_171 hlocks
                      · replace hr := (if_pos hc9).symm.trans hr
                        refine lv_iload_n hx hb dM_count_163 rfl (lv_at hl 3 rfl) ?_
                        refine lv_goto (tgt := 171) hx hb dM_count_164 (by decide) ?_
                        obtain rfl := Option.some.inj hr
                        exact W.iret (v := x3) hx hb hrt (fun t ht _ => ⟨rfl, by rw [ht]; exact hP, hS.F ht⟩) hS.2.2 dM_count_171 hlocks
                    · replace hr := (if_pos hc8).symm.trans hr
                      refine lv_aload_n hx hb dM_count_150 rfl (lv_at hl 0 rfl) ?_
                      refine lv_iconst (v := 0) hx hb dM_count_151 (by decide) ?_
                      obtain ⟨q10, hq11, hr⟩ := Option.bind_eq_some_iff.mp hr
                      refine tp_kP (rest := []) S hK hP hD rfl rfl (cM_countWith l D h a cI cZ _ σ35 0 q10 hq11) (cwV 1 hTB tp_gM_countWith rfl rfl rfl ⟨rfl, by decide, by decide, by decide +kernel⟩ ⟨Nat.le_of_ble_eq_true rfl, Nat.le_of_ble_eq_true rfl⟩) rfl hl.1 rfl (Nat.le_of_ble_eq_true rfl) dM_count_152 ⟨Nat.zero_le _, Nat.zero_le _⟩ ?_
                      refine lv_goto (tgt := 171) hx hb dM_count_155 (by decide) ?_
                      obtain rfl := Option.some.inj hr
                      exact W.iret (v := q10) hx hb hrt (fun t ht _ => ⟨rfl, by rw [ht]; exact hP, hS.F ht⟩) hS.2.2 dM_count_171 hlocks
                  · replace hr := (if_pos hc7).symm.trans hr
                    refine lv_aload_n hx hb dM_count_137 rfl (lv_at hl 0 rfl) ?_
                    refine lv_iconst (v := 1) hx hb dM_count_138 (by decide) ?_
                    obtain ⟨q12, hq13, hr⟩ := Option.bind_eq_some_iff.mp hr
                    refine tp_kP (rest := []) S hK hP hD rfl rfl (cM_countWith l D h a cI cZ _ σ35 1 q12 hq13) (cwV 1 hTB tp_gM_countWith rfl rfl rfl ⟨rfl, by decide, by decide, by decide +kernel⟩ ⟨Nat.le_of_ble_eq_true rfl, Nat.le_of_ble_eq_true rfl⟩) rfl hl.1 rfl (Nat.le_of_ble_eq_true rfl) dM_count_139 ⟨Nat.zero_le _, Nat.zero_le _⟩ ?_
                    refine lv_goto (tgt := 171) hx hb dM_count_142 (by decide) ?_
                    obtain rfl := Option.some.inj hr
                    exact W.iret (v := q12) hx hb hrt (fun t ht _ => ⟨rfl, by rw [ht]; exact hP, hS.F ht⟩) hS.2.2 dM_count_171 hlocks
                · replace hr := (if_pos hc6).symm.trans hr
                  refine lv_aload_n hx hb dM_count_124 rfl (lv_at hl 0 rfl) ?_
                  refine lv_iconst (v := (-1)) hx hb dM_count_125 (by decide) ?_
                  obtain ⟨q14, hq15, hr⟩ := Option.bind_eq_some_iff.mp hr
                  refine tp_kP (rest := []) S hK hP hD rfl rfl (cM_capacity l D h a cI cZ _ σ35 (-1) q14 hq15) (cwV 1 hTB tp_gM_capacity rfl rfl rfl ⟨rfl, by decide, by decide, by decide +kernel⟩ ⟨Nat.le_of_ble_eq_true rfl, Nat.le_of_ble_eq_true rfl⟩) rfl hl.1 rfl (Nat.le_of_ble_eq_true rfl) dM_count_126 ⟨Nat.zero_le _, Nat.zero_le _⟩ ?_
                  refine lv_goto (tgt := 171) hx hb dM_count_129 (by decide) ?_
                  obtain rfl := Option.some.inj hr
                  exact W.iret (v := q14) hx hb hrt (fun t ht _ => ⟨rfl, by rw [ht]; exact hP, hS.F ht⟩) hS.2.2 dM_count_171 hlocks
              · replace hr := (if_pos hc5).symm.trans hr
                refine lv_aload_n hx hb dM_count_112 rfl (lv_at hl 0 rfl) ?_
                obtain ⟨q16, hq17, hr⟩ := Option.bind_eq_some_iff.mp hr
                refine tp_kP (rest := []) S hK hP hD rfl rfl (cM_chunkCount l D h a cI cZ _ σ35  q16 hq17) (cwV 0 hTB tp_gM_chunkCount rfl rfl rfl ⟨rfl, by decide, by decide, by decide +kernel⟩ ⟨Nat.le_of_ble_eq_true rfl, Nat.le_of_ble_eq_true rfl⟩) rfl hl.1 rfl (Nat.le_of_ble_eq_true rfl) dM_count_113 ⟨Nat.zero_le _, Nat.zero_le _⟩ ?_
                refine lv_goto (tgt := 171) hx hb dM_count_116 (by decide) ?_
                obtain rfl := Option.some.inj hr
                exact W.iret (v := q16) hx hb hrt (fun t ht _ => ⟨rfl, by rw [ht]; exact hP, hS.F ht⟩) hS.2.2 dM_count_171 hlocks
            · replace hr := (if_pos hc4).symm.trans hr
              refine lv_iload_n hx hb dM_count_103 rfl (lv_at hl 2 rfl) ?_
              refine lv_goto (tgt := 171) hx hb dM_count_104 (by decide) ?_
              obtain rfl := Option.some.inj hr
              exact W.iret (v := x2) hx hb hrt (fun t ht _ => ⟨rfl, by rw [ht]; exact hP, hS.F ht⟩) hS.2.2 dM_count_171 hlocks
          · replace hr := (if_neg hc3).symm.trans hr
            refine lv_aload_n hx hb dM_count_42 rfl (lv_at hl 0 rfl) ?_
            refine tp_gtM S hK hP 1 (by decide) (v := .ref (a 1)) tp_mM_f1 rfl dM_count_43 ?_
            refine lv_iload hx hb dM_count_46 (lv_at hl 4 rfl) ?_
            by_cases hb18 : tp_oob x4 12
            · exact nomatch ((if_pos hb18).symm.trans hr)
            replace hr := (if_neg hb18).symm.trans hr
            refine va_iald hx hb hK hP 1 0 rfl rfl hb18 dM_count_48 ?_
            refine lv_if_le (tgt := 58) hx hb dM_count_49 (by decide) (fun hc19 => ?_) (fun hc19 => ?_)
            · replace hr := (if_pos hc19).symm.trans hr
              refine lv_iload_n hx hb dM_count_58 rfl (lv_at hl 2 rfl) ?_
              refine lv_istore_n hx hb dM_count_59 rfl hl (by decide) rfl (fun ls hl => ?_)
              have hl : lv_has ls 5 [(2, .int x2), (0, .ref h), (1, .int x1), (3, .int x3), (4, .int x4)] := hl
              refine lv_aload_n hx hb dM_count_60 rfl (lv_at hl 1 rfl) ?_
              refine tp_gtM S hK hP 1 (by decide) (v := .ref (a 1)) tp_mM_f1 rfl dM_count_61 ?_
              refine lv_iload hx hb dM_count_64 (lv_at hl 4 rfl) ?_
              refine va_iald hx hb hK hP 1 0 rfl rfl hb18 dM_count_66 ?_
              refine lv_if_le (tgt := 91) hx hb dM_count_67 (by decide) (fun hc20 => ?_) (fun hc20 => ?_)
              · replace hr := (if_pos hc20).symm.trans hr
                refine lv_iload_n hx hb dM_count_91 rfl (lv_at hl 3 rfl) ?_
                refine lv_istore_n hx hb dM_count_92 rfl hl (by decide) rfl (fun ls hl => ?_)
                have hl : lv_has ls 5 [(3, .int x3), (2, .int x2), (0, .ref h), (1, .int x1), (4, .int x4)] := hl
                refine lv_iinc (k := 4) (v := (x4 + 1)) hx hb dM_count_93 hl rfl (tp_ii1 _) (by decide) rfl (fun ls hl => ?_)
                have hl : lv_has ls 5 [(4, .int (x4 + 1)), (3, .int x3), (2, .int x2), (0, .ref h), (1, .int x1)] := hl
                refine lv_goto (tgt := 35) hx hb dM_count_96 (by decide) ?_
                exact ih35 x2 x3 (x4 + 1) σ35 H locs ls hr (lv_sub hl [3, 4, 2, 1, 0] rfl) hP hD hS
              · replace hr := (if_neg hc20).symm.trans hr
                refine lv_aload_n hx hb dM_count_70 rfl (lv_at hl 1 rfl) ?_
                refine tp_gtM S hK hP 2 (by decide) (v := .ref (a 2)) tp_mM_f2 rfl dM_count_71 ?_
                refine lv_iload hx hb dM_count_74 (lv_at hl 4 rfl) ?_
                refine va_zald hx hb hK hP 2 1 rfl rfl hb18 dM_count_76 ?_
                refine lv_if_eq (tgt := 91) hx hb dM_count_77 (by decide) (fun hc21 => ?_) (fun hc21 => ?_)
                · replace hr := (if_pos hc21).symm.trans hr
                  refine lv_iload_n hx hb dM_count_91 rfl (lv_at hl 3 rfl) ?_
                  refine lv_istore_n hx hb dM_count_92 rfl hl (by decide) rfl (fun ls hl => ?_)
                  have hl : lv_has ls 5 [(3, .int x3), (2, .int x2), (0, .ref h), (1, .int x1), (4, .int x4)] := hl
                  refine lv_iinc (k := 4) (v := (x4 + 1)) hx hb dM_count_93 hl rfl (tp_ii1 _) (by decide) rfl (fun ls hl => ?_)
                  have hl : lv_has ls 5 [(4, .int (x4 + 1)), (3, .int x3), (2, .int x2), (0, .ref h), (1, .int x1)] := hl
                  refine lv_goto (tgt := 35) hx hb dM_count_96 (by decide) ?_
                  exact ih35 x2 x3 (x4 + 1) σ35 H locs ls hr (lv_sub hl [3, 4, 2, 1, 0] rfl) hP hD hS
                · replace hr := (if_neg hc21).symm.trans hr
                  refine lv_iload_n hx hb dM_count_80 rfl (lv_at hl 3 rfl) ?_
                  refine lv_aload_n hx hb dM_count_81 rfl (lv_at hl 1 rfl) ?_
                  refine lv_iload hx hb dM_count_82 (lv_at hl 4 rfl) ?_
                  obtain ⟨q22, hq23, hr⟩ := Option.bind_eq_some_iff.mp hr
                  refine tp_kP (rest := [.int x3]) S hK hP hD rfl rfl (cM_used l D h a cI cZ _ σ35 x4 q22 hq23) (cwV 1 hTB tp_gM_used rfl rfl rfl ⟨rfl, by decide, by decide, by decide +kernel⟩ ⟨Nat.le_of_ble_eq_true rfl, Nat.le_of_ble_eq_true rfl⟩) rfl hl.1 rfl (Nat.le_of_ble_eq_true rfl) dM_count_84 ⟨Nat.zero_le _, Nat.zero_le _⟩ ?_
                  refine lv_iadd hx hb dM_count_87 ?_
                  refine lv_goto (tgt := 92) hx hb dM_count_88 (by decide) ?_
                  refine lv_istore_n hx hb dM_count_92 rfl hl (by decide) rfl (fun ls hl => ?_)
                  have hl : lv_has ls 5 [(3, .int (x3 + q22)), (2, .int x2), (0, .ref h), (1, .int x1), (4, .int x4)] := hl
                  refine lv_iinc (k := 4) (v := (x4 + 1)) hx hb dM_count_93 hl rfl (tp_ii1 _) (by decide) rfl (fun ls hl => ?_)
                  have hl : lv_has ls 5 [(4, .int (x4 + 1)), (3, .int (x3 + q22)), (2, .int x2), (0, .ref h), (1, .int x1)] := hl
                  refine lv_goto (tgt := 35) hx hb dM_count_96 (by decide) ?_
                  exact ih35 x2 (x3 + q22) (x4 + 1) σ35 H locs ls hr (lv_sub hl [3, 4, 2, 1, 0] rfl) hP hD hS
            · replace hr := (if_neg hc19).symm.trans hr
              refine lv_iload_n hx hb dM_count_52 rfl (lv_at hl 2 rfl) ?_
              refine lv_iconst (v := 1) hx hb dM_count_53 (by decide) ?_
              refine lv_iadd hx hb dM_count_54 ?_
              refine lv_goto (tgt := 59) hx hb dM_count_55 (by decide) ?_
              refine lv_istore_n hx hb dM_count_59 rfl hl (by decide) rfl (fun ls hl => ?_)
              have hl : lv_has ls 5 [(2, .int (x2 + 1)), (0, .ref h), (1, .int x1), (3, .int x3), (4, .int x4)] := hl
              refine lv_aload_n hx hb dM_count_60 rfl (lv_at hl 1 rfl) ?_
              refine tp_gtM S hK hP 1 (by decide) (v := .ref (a 1)) tp_mM_f1 rfl dM_count_61 ?_
              refine lv_iload hx hb dM_count_64 (lv_at hl 4 rfl) ?_
              refine va_iald hx hb hK hP 1 0 rfl rfl hb18 dM_count_66 ?_
              refine lv_if_le (tgt := 91) hx hb dM_count_67 (by decide) (fun hc24 => ?_) (fun hc24 => ?_)
              · replace hr := (if_pos hc24).symm.trans hr
                refine lv_iload_n hx hb dM_count_91 rfl (lv_at hl 3 rfl) ?_
                refine lv_istore_n hx hb dM_count_92 rfl hl (by decide) rfl (fun ls hl => ?_)
                have hl : lv_has ls 5 [(3, .int x3), (2, .int (x2 + 1)), (0, .ref h), (1, .int x1), (4, .int x4)] := hl
                refine lv_iinc (k := 4) (v := (x4 + 1)) hx hb dM_count_93 hl rfl (tp_ii1 _) (by decide) rfl (fun ls hl => ?_)
                have hl : lv_has ls 5 [(4, .int (x4 + 1)), (3, .int x3), (2, .int (x2 + 1)), (0, .ref h), (1, .int x1)] := hl
                refine lv_goto (tgt := 35) hx hb dM_count_96 (by decide) ?_
                exact ih35 (x2 + 1) x3 (x4 + 1) σ35 H locs ls hr (lv_sub hl [3, 4, 2, 1, 0] rfl) hP hD hS
              · replace hr := (if_neg hc24).symm.trans hr
                refine lv_aload_n hx hb dM_count_70 rfl (lv_at hl 1 rfl) ?_
                refine tp_gtM S hK hP 2 (by decide) (v := .ref (a 2)) tp_mM_f2 rfl dM_count_71 ?_
                refine lv_iload hx hb dM_count_74 (lv_at hl 4 rfl) ?_
                refine va_zald hx hb hK hP 2 1 rfl rfl hb18 dM_count_76 ?_
                refine lv_if_eq (tgt := 91) hx hb dM_count_77 (by decide) (fun hc25 => ?_) (fun hc25 => ?_)
                · replace hr := (if_pos hc25).symm.trans hr
                  refine lv_iload_n hx hb dM_count_91 rfl (lv_at hl 3 rfl) ?_
                  refine lv_istore_n hx hb dM_count_92 rfl hl (by decide) rfl (fun ls hl => ?_)
                  have hl : lv_has ls 5 [(3, .int x3), (2, .int (x2 + 1)), (0, .ref h), (1, .int x1), (4, .int x4)] := hl
                  refine lv_iinc (k := 4) (v := (x4 + 1)) hx hb dM_count_93 hl rfl (tp_ii1 _) (by decide) rfl (fun ls hl => ?_)
                  have hl : lv_has ls 5 [(4, .int (x4 + 1)), (3, .int x3), (2, .int (x2 + 1)), (0, .ref h), (1, .int x1)] := hl
                  refine lv_goto (tgt := 35) hx hb dM_count_96 (by decide) ?_
                  exact ih35 (x2 + 1) x3 (x4 + 1) σ35 H locs ls hr (lv_sub hl [3, 4, 2, 1, 0] rfl) hP hD hS
                · replace hr := (if_neg hc25).symm.trans hr
                  refine lv_iload_n hx hb dM_count_80 rfl (lv_at hl 3 rfl) ?_
                  refine lv_aload_n hx hb dM_count_81 rfl (lv_at hl 1 rfl) ?_
                  refine lv_iload hx hb dM_count_82 (lv_at hl 4 rfl) ?_
                  obtain ⟨q26, hq27, hr⟩ := Option.bind_eq_some_iff.mp hr
                  refine tp_kP (rest := [.int x3]) S hK hP hD rfl rfl (cM_used l D h a cI cZ _ σ35 x4 q26 hq27) (cwV 1 hTB tp_gM_used rfl rfl rfl ⟨rfl, by decide, by decide, by decide +kernel⟩ ⟨Nat.le_of_ble_eq_true rfl, Nat.le_of_ble_eq_true rfl⟩) rfl hl.1 rfl (Nat.le_of_ble_eq_true rfl) dM_count_84 ⟨Nat.zero_le _, Nat.zero_le _⟩ ?_
                  refine lv_iadd hx hb dM_count_87 ?_
                  refine lv_goto (tgt := 92) hx hb dM_count_88 (by decide) ?_
                  refine lv_istore_n hx hb dM_count_92 rfl hl (by decide) rfl (fun ls hl => ?_)
                  have hl : lv_has ls 5 [(3, .int (x3 + q26)), (2, .int (x2 + 1)), (0, .ref h), (1, .int x1), (4, .int x4)] := hl
                  refine lv_iinc (k := 4) (v := (x4 + 1)) hx hb dM_count_93 hl rfl (tp_ii1 _) (by decide) rfl (fun ls hl => ?_)
                  have hl : lv_has ls 5 [(4, .int (x4 + 1)), (3, .int (x3 + q26)), (2, .int (x2 + 1)), (0, .ref h), (1, .int x1)] := hl
                  refine lv_goto (tgt := 35) hx hb dM_count_96 (by decide) ?_
                  exact ih35 (x2 + 1) (x3 + q26) (x4 + 1) σ35 H locs ls hr (lv_sub hl [3, 4, 2, 1, 0] rfl) hP hD hS
      exact loop35 13 0 0 0 (tp_up σ 0 0 0) _ _ ls hr (lv_sub hl [3, 4, 2, 1, 0] rfl) hP hD hS
