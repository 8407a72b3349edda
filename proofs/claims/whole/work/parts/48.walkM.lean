set_option maxHeartbeats 4000000 in
set_option maxRecDepth 100000 in
theorem cM_place (l : Launch) (D : va_G) (h : Nat) (a : Nat → Nat) (cI cZ : ClassId) (sz : Nat) (σ : tp_St) (x1 : Int32) (x2 : Int32) (r : (Int32 × tp_St)) (hr : fM_place σ x1 x2 = some r) : Met l tp_yM_place (tp_wsT tp_yM_place tp_bM_place 6 (some .int)) { frames := 1, cells := 0, slots := 0, locals := 22 } (tp_PcW D [(cI, .int), (cZ, .boolean)] (tp_wM h a cI cZ σ) sz [.ref h, .int x1, .int x2]) (tp_qW (some (.int r.1)) D (tp_wM h a cI cZ r.2) (va_A (tp_wM h a cI cZ σ) sz)) 0 0 (va_A (tp_wM h a cI cZ σ) sz) := by
  refine Met.ofW (cc := tp_bM_place) (maxL := 6) (ret := (some .int)) (by decide) rfl ?_
  intro p e s m args below meth c s₁ B hml hv
  obtain ⟨rfl, hsz, hP, hK, hD0⟩ := hv
  have hx := B.exec
  have hb := B.bytes
  have hrt := B.returns
  have hTB : ∀ w ∈ tp_TB, w.before _ s = true := fun w z => atoms_spec (ws := (tp_wsT tp_yM_place tp_bM_place 6 (some .int))) B.pre w (List.mem_cons_of_mem _ z)
  have hown : s.vm.findClass tp_RM = some m.cls := findClass_of_methodNamed B.named
  have hlocks := B.notSynchronized
  have S : CallFix p m c tp_bM_place 6 s _ tp_TB tp_RM := ⟨hx, hb, hml, hown, hTB⟩
  subst hsz
  have hD : va_D (va_A (tp_wM h a cI cZ σ) s.heap.size) (tp_wM h a cI cZ σ) := hD0.self
  have hA : ∀ q : Nat, s.heap.size ≤ q → va_A (tp_wM h a cI cZ σ) s.heap.size q := fun q z => Or.inr z
  have hS : va_S (va_A (tp_wM h a cI cZ σ) s.heap.size) s.heap s.heap [] := va_S.rf
  have hl := lv_entry ([.ref h, .int x1, .int x2]) (n := 6) (Nat.le_of_ble_eq_true rfl)
  rw [lg_entry_eq]
  generalize (lg_sl ([.ref h, .int x1, .int x2]) ++ List.replicate (6 - (lg_sl ([.ref h, .int x1, .int x2])).length) Slot.unset).toArray = ls at hl ⊢
  have hl : lv_has ls 6 [(0, .ref h), (1, .int x1), (2, .int x2)] := hl
  rw [fM_place] at hr
  refine lv_aload_n hx hb dM_place_0 rfl (lv_at hl 0 rfl) ?_
  refine lv_aload_n hx hb dM_place_1 rfl (lv_at hl 0 rfl) ?_
  refine lv_iload_n hx hb dM_place_2 rfl (lv_at hl 1 rfl) ?_
  obtain ⟨q1, hq2, hr⟩ := Option.bind_eq_some_iff.mp hr
  refine tp_kP (rest := [.ref h]) S hK hP hD rfl rfl (cM_isChunk l D h a cI cZ _ σ x1 q1 hq2) (cwV 1 hTB tp_gM_isChunk rfl rfl rfl ⟨rfl, by decide, by decide, by decide +kernel⟩ ⟨Nat.le_of_ble_eq_true rfl, Nat.le_of_ble_eq_true rfl⟩) rfl hl.1 rfl (Nat.le_of_ble_eq_true rfl) dM_place_3 ⟨Nat.zero_le _, Nat.zero_le _⟩ ?_
  refine lv_if_eq (tgt := 13) hx hb dM_place_6 (by decide) (fun hc3 => ?_) (fun hc3 => ?_)
  · replace hr := (if_pos hc3).symm.trans hr
    refine lv_iconst (v := 1) hx hb dM_place_13 (by decide) ?_
    refine tp_ptM0 S hK hP hD hS tp_mM_f0 dM_place_14 (fun H locs hP hD hS => ?_)
    refine lv_aload_n hx hb dM_place_17 rfl (lv_at hl 0 rfl) ?_
    refine tp_gtM S hK hP 0 (by decide) (v := .int 1) tp_mM_f0 rfl dM_place_18 ?_
    refine lv_if_le (tgt := 26) hx hb dM_place_21 (by decide) (fun z => absurd z (by decide)) (fun _ => ?_)
    refine lv_iconst (v := 0) hx hb dM_place_24 (by decide) ?_
    obtain rfl := Option.some.inj hr
    exact W.iret (v := 0) hx hb hrt (fun t ht _ => ⟨rfl, by rw [ht]; exact hP, hS.F ht⟩) hS.2.2 dM_place_25 hlocks
  · replace hr := (if_neg hc3).symm.trans hr
    refine lv_iconst (v := 0) hx hb dM_place_9 (by decide) ?_
    refine lv_goto (tgt := 14) hx hb dM_place_10 (by decide) ?_
    refine tp_ptM0 S hK hP hD hS tp_mM_f0 dM_place_14 (fun H locs hP hD hS => ?_)
    refine lv_aload_n hx hb dM_place_17 rfl (lv_at hl 0 rfl) ?_
    refine tp_gtM S hK hP 0 (by decide) (v := .int 0) tp_mM_f0 rfl dM_place_18 ?_
    refine lv_if_le (tgt := 26) hx hb dM_place_21 (by decide) (fun _ => ?_) (fun z => absurd (by decide) z)
    refine lv_iconst (v := (-1)) hx hb dM_place_26 (by decide) ?_
    refine lv_istore_n hx hb dM_place_27 rfl hl (by decide) rfl (fun ls hl => ?_)
    have hl : lv_has ls 6 [(3, .int (-1)), (0, .ref h), (1, .int x1), (2, .int x2)] := hl
    refine lv_iconst (v := (-1)) hx hb dM_place_28 (by decide) ?_
    refine lv_istore hx hb dM_place_29 hl (by decide) rfl (fun ls hl => ?_)
    have hl : lv_has ls 6 [(4, .int (-1)), (3, .int (-1)), (0, .ref h), (1, .int x1), (2, .int x2)] := hl
    refine lv_iconst (v := 0) hx hb dM_place_31 (by decide) ?_
    refine lv_istore hx hb dM_place_32 hl (by decide) rfl (fun ls hl => ?_)
    have hl : lv_has ls 6 [(5, .int 0), (4, .int (-1)), (3, .int (-1)), (0, .ref h), (1, .int x1), (2, .int x2)] := hl
    have loop34 : ∀ (n34 : Nat) (x3 : Int32) (x4 : Int32) (x5 : Int32) (σ34 : tp_St) (H : Heap) (locs : List Loc) (ls : Array Slot), fM_place_L34 x1 x2 n34 x3 x4 x5 σ34 = some r → lv_has ls 6 [(0, .ref h), (1, .int x1), (2, .int x2), (3, .int x3), (4, .int x4), (5, .int x5)] → va_P D tp_CL (tp_wM h a cI cZ σ34) H → va_D (va_A (tp_wM h a cI cZ σ) s.heap.size) (tp_wM h a cI cZ σ34) → va_S (va_A (tp_wM h a cI cZ σ) s.heap.size) s.heap H locs → W p l e { frames := 1, cells := 0, slots := 0, locals := 22 } s m (([.ref h, .int x1, .int x2] : List Value).toArray) below meth c H locs 0 0 (MQ below (tp_qW (some (.int r.1)) D (tp_wM h a cI cZ r.2) (va_A (tp_wM h a cI cZ σ) s.heap.size)) (([.ref h, .int x1, .int x2] : List Value).toArray) s 0 0 (va_A (tp_wM h a cI cZ σ) s.heap.size)) (F0 m 34 ls []) := by
      intro n34
      induction n34 with
      | zero => intro x3 x4 x5 σ34 H locs ls hr hl hP hD hS; exact nomatch (show (none : Option (Int32 × tp_St)) = some r from hr)
      | succ n34 ih34 =>
        intro x3 x4 x5 σ34 H locs ls hr hl hP hD hS
        rw [fM_place_L34] at hr
        refine lv_iload hx hb dM_place_34 (lv_at hl 5 rfl) ?_
        refine lv_bipush (v := 12) hx hb dM_place_36 (by decide) ?_
        refine lv_icmp_ge (tgt := 81) hx hb dM_place_38 (by decide) (fun hc4 => ?_) (fun hc4 => ?_)
        · replace hr := (if_pos hc4).symm.trans hr
          refine lv_iload_n hx hb dM_place_81 rfl (lv_at hl 2 rfl) ?_
          refine lv_if_eq (tgt := 90) hx hb dM_place_82 (by decide) (fun hc5 => ?_) (fun hc5 => ?_)
          · replace hr := (if_pos hc5).symm.trans hr
            refine lv_iload_n hx hb dM_place_90 rfl (lv_at hl 3 rfl) ?_
            obtain rfl := Option.some.inj hr
            exact W.iret (v := x3) hx hb hrt (fun t ht _ => ⟨rfl, by rw [ht]; exact hP, hS.F ht⟩) hS.2.2 dM_place_91 hlocks
          · replace hr := (if_neg hc5).symm.trans hr
            refine lv_iload hx hb dM_place_85 (lv_at hl 4 rfl) ?_
            refine lv_goto (tgt := 91) hx hb dM_place_87 (by decide) ?_
            obtain rfl := Option.some.inj hr
            exact W.iret (v := x4) hx hb hrt (fun t ht _ => ⟨rfl, by rw [ht]; exact hP, hS.F ht⟩) hS.2.2 dM_place_91 hlocks
        · replace hr := (if_neg hc4).symm.trans hr
          refine lv_aload_n hx hb dM_place_41 rfl (lv_at hl 0 rfl) ?_
          refine lv_iload_n hx hb dM_place_42 rfl (lv_at hl 1 rfl) ?_
          refine lv_iload hx hb dM_place_43 (lv_at hl 5 rfl) ?_
          obtain ⟨q6, hq7, hr⟩ := Option.bind_eq_some_iff.mp hr
          refine tp_kP (rest := []) S hK hP hD rfl rfl (cM_isOn l D h a cI cZ _ σ34 x1 x5 q6 hq7) (cwV 2 hTB tp_gM_isOn rfl rfl rfl ⟨rfl, by decide, by decide, by decide +kernel⟩ ⟨Nat.le_of_ble_eq_true rfl, Nat.le_of_ble_eq_true rfl⟩) rfl hl.1 rfl (Nat.le_of_ble_eq_true rfl) dM_place_45 ⟨Nat.zero_le _, Nat.zero_le _⟩ ?_
          refine lv_if_eq (tgt := 75) hx hb dM_place_48 (by decide) (fun hc8 => ?_) (fun hc8 => ?_)
          · replace hr := (if_pos hc8).symm.trans hr
            refine lv_iinc (k := 5) (v := (x5 + 1)) hx hb dM_place_75 hl rfl (tp_ii1 _) (by decide) rfl (fun ls hl => ?_)
            have hl : lv_has ls 6 [(5, .int (x5 + 1)), (0, .ref h), (1, .int x1), (2, .int x2), (3, .int x3), (4, .int x4)] := hl
            refine lv_goto (tgt := 34) hx hb dM_place_78 (by decide) ?_
            exact ih34 x3 x4 (x5 + 1) σ34 H locs ls hr (lv_sub hl [1, 2, 3, 4, 5, 0] rfl) hP hD hS
          · replace hr := (if_neg hc8).symm.trans hr
            refine lv_iload_n hx hb dM_place_51 rfl (lv_at hl 3 rfl) ?_
            refine lv_if_ge (tgt := 60) hx hb dM_place_52 (by decide) (fun hc9 => ?_) (fun hc9 => ?_)
            · replace hr := (if_pos hc9).symm.trans hr
              refine lv_iload hx hb dM_place_60 (lv_at hl 5 rfl) ?_
              refine lv_istore hx hb dM_place_62 hl (by decide) rfl (fun ls hl => ?_)
              have hl : lv_has ls 6 [(4, .int x5), (0, .ref h), (1, .int x1), (2, .int x2), (3, .int x3), (5, .int x5)] := hl
              refine lv_iload_n hx hb dM_place_64 rfl (lv_at hl 4 rfl) ?_
              refine lv_if_ge (tgt := 73) hx hb dM_place_65 (by decide) (fun hc10 => ?_) (fun hc10 => ?_)
              · replace hr := (if_pos hc10).symm.trans hr
                refine lv_iload_n hx hb dM_place_73 rfl (lv_at hl 4 rfl) ?_
                refine lv_istore_n hx hb dM_place_74 rfl hl (by decide) rfl (fun ls hl => ?_)
                have hl : lv_has ls 6 [(3, .int x3), (4, .int x5), (0, .ref h), (1, .int x1), (2, .int x2), (5, .int x5)] := hl
                refine lv_iinc (k := 5) (v := (x5 + 1)) hx hb dM_place_75 hl rfl (tp_ii1 _) (by decide) rfl (fun ls hl => ?_)
                have hl : lv_has ls 6 [(5, .int (x5 + 1)), (3, .int x3), (4, .int x5), (0, .ref h), (1, .int x1), (2, .int x2)] := hl
                refine lv_goto (tgt := 34) hx hb dM_place_78 (by decide) ?_
                exact ih34 x3 x5 (x5 + 1) σ34 H locs ls hr (lv_sub hl [3, 4, 5, 1, 2, 0] rfl) hP hD hS
              · replace hr := (if_neg hc10).symm.trans hr
                refine lv_iload hx hb dM_place_68 (lv_at hl 5 rfl) ?_
                refine lv_goto (tgt := 74) hx hb dM_place_70 (by decide) ?_
                refine lv_istore_n hx hb dM_place_74 rfl hl (by decide) rfl (fun ls hl => ?_)
                have hl : lv_has ls 6 [(3, .int x5), (4, .int x5), (0, .ref h), (1, .int x1), (2, .int x2), (5, .int x5)] := hl
                refine lv_iinc (k := 5) (v := (x5 + 1)) hx hb dM_place_75 hl rfl (tp_ii1 _) (by decide) rfl (fun ls hl => ?_)
                have hl : lv_has ls 6 [(5, .int (x5 + 1)), (3, .int x5), (4, .int x5), (0, .ref h), (1, .int x1), (2, .int x2)] := hl
                refine lv_goto (tgt := 34) hx hb dM_place_78 (by decide) ?_
                exact ih34 x5 x5 (x5 + 1) σ34 H locs ls hr (lv_sub hl [3, 4, 5, 1, 2, 0] rfl) hP hD hS
            · replace hr := (if_neg hc9).symm.trans hr
              refine lv_iload hx hb dM_place_55 (lv_at hl 4 rfl) ?_
              refine lv_goto (tgt := 62) hx hb dM_place_57 (by decide) ?_
              refine lv_istore hx hb dM_place_62 hl (by decide) rfl (fun ls hl => ?_)
              have hl : lv_has ls 6 [(4, .int x4), (0, .ref h), (1, .int x1), (2, .int x2), (3, .int x3), (5, .int x5)] := hl
              refine lv_iload_n hx hb dM_place_64 rfl (lv_at hl 4 rfl) ?_
              refine lv_if_ge (tgt := 73) hx hb dM_place_65 (by decide) (fun hc11 => ?_) (fun hc11 => ?_)
              · replace hr := (if_pos hc11).symm.trans hr
                refine lv_iload_n hx hb dM_place_73 rfl (lv_at hl 4 rfl) ?_
                refine lv_istore_n hx hb dM_place_74 rfl hl (by decide) rfl (fun ls hl => ?_)
                have hl : lv_has ls 6 [(3, .int x3), (4, .int x4), (0, .ref h), (1, .int x1), (2, .int x2), (5, .int x5)] := hl
                refine lv_iinc (k := 5) (v := (x5 + 1)) hx hb dM_place_75 hl rfl (tp_ii1 _) (by decide) rfl (fun ls hl => ?_)
                have hl : lv_has ls 6 [(5, .int (x5 + 1)), (3, .int x3), (4, .int x4), (0, .ref h), (1, .int x1), (2, .int x2)] := hl
                refine lv_goto (tgt := 34) hx hb dM_place_78 (by decide) ?_
                exact ih34 x3 x4 (x5 + 1) σ34 H locs ls hr (lv_sub hl [3, 4, 5, 1, 2, 0] rfl) hP hD hS
              · replace hr := (if_neg hc11).symm.trans hr
                refine lv_iload hx hb dM_place_68 (lv_at hl 5 rfl) ?_
                refine lv_goto (tgt := 74) hx hb dM_place_70 (by decide) ?_
                refine lv_istore_n hx hb dM_place_74 rfl hl (by decide) rfl (fun ls hl => ?_)
                have hl : lv_has ls 6 [(3, .int x5), (4, .int x4), (0, .ref h), (1, .int x1), (2, .int x2), (5, .int x5)] := hl
                refine lv_iinc (k := 5) (v := (x5 + 1)) hx hb dM_place_75 hl rfl (tp_ii1 _) (by decide) rfl (fun ls hl => ?_)
                have hl : lv_has ls 6 [(5, .int (x5 + 1)), (3, .int x5), (4, .int x4), (0, .ref h), (1, .int x1), (2, .int x2)] := hl
                refine lv_goto (tgt := 34) hx hb dM_place_78 (by decide) ?_
                exact ih34 x5 x4 (x5 + 1) σ34 H locs ls hr (lv_sub hl [3, 4, 5, 1, 2, 0] rfl) hP hD hS
    exact loop34 13 (-1) (-1) 0 (tp_up σ 0 0 0) _ _ ls hr (lv_sub hl [3, 4, 5, 2, 1, 0] rfl) hP hD hS
set_option maxHeartbeats 4000000 in
set_option maxRecDepth 100000 in
theorem cM_about (l : Launch) (D : va_G) (h : Nat) (a : Nat → Nat) (cI cZ : ClassId) (sz : Nat) (σ : tp_St) (x1 : Int32) (x2 : Int32) (r : (Int32 × tp_St)) (hr : fM_about σ x1 x2 = some r) : Met l tp_yM_about (tp_wsT tp_yM_about tp_bM_about 4 (some .int)) { frames := 3, cells := 0, slots := 0, locals := 66 } (tp_PcW D [(cI, .int), (cZ, .boolean)] (tp_wM h a cI cZ σ) sz [.ref h, .int x1, .int x2]) (tp_qW (some (.int r.1)) D (tp_wM h a cI cZ r.2) (va_A (tp_wM h a cI cZ σ) sz)) 0 0 (va_A (tp_wM h a cI cZ σ) sz) := by
  refine Met.ofW (cc := tp_bM_about) (maxL := 4) (ret := (some .int)) (by decide) rfl ?_
  intro p e s m args below meth c s₁ B hml hv
  obtain ⟨rfl, hsz, hP, hK, hD0⟩ := hv
  have hx := B.exec
  have hb := B.bytes
  have hrt := B.returns
  have hTB : ∀ w ∈ tp_TB, w.before _ s = true := fun w z => atoms_spec (ws := (tp_wsT tp_yM_about tp_bM_about 4 (some .int))) B.pre w (List.mem_cons_of_mem _ z)
  have hown : s.vm.findClass tp_RM = some m.cls := findClass_of_methodNamed B.named
  have hlocks := B.notSynchronized
  have S : CallFix p m c tp_bM_about 4 s _ tp_TB tp_RM := ⟨hx, hb, hml, hown, hTB⟩
  subst hsz
  have hD : va_D (va_A (tp_wM h a cI cZ σ) s.heap.size) (tp_wM h a cI cZ σ) := hD0.self
  have hA : ∀ q : Nat, s.heap.size ≤ q → va_A (tp_wM h a cI cZ σ) s.heap.size q := fun q z => Or.inr z
  have hS : va_S (va_A (tp_wM h a cI cZ σ) s.heap.size) s.heap s.heap [] := va_S.rf
  have hl := lv_entry ([.ref h, .int x1, .int x2]) (n := 4) (Nat.le_of_ble_eq_true rfl)
  rw [lg_entry_eq]
  generalize (lg_sl ([.ref h, .int x1, .int x2]) ++ List.replicate (4 - (lg_sl ([.ref h, .int x1, .int x2])).length) Slot.unset).toArray = ls at hl ⊢
  have hl : lv_has ls 4 [(0, .ref h), (1, .int x1), (2, .int x2)] := hl
  rw [fM_about] at hr
  refine lv_aload_n hx hb dM_about_0 rfl (lv_at hl 0 rfl) ?_
  refine lv_aload_n hx hb dM_about_1 rfl (lv_at hl 0 rfl) ?_
  refine lv_iload_n hx hb dM_about_2 rfl (lv_at hl 1 rfl) ?_
  obtain ⟨q1, hq2, hr⟩ := Option.bind_eq_some_iff.mp hr
  refine tp_kP (rest := [.ref h]) S hK hP hD rfl rfl (cM_isDisk l D h a cI cZ _ σ x1 q1 hq2) (cwV 1 hTB tp_gM_isDisk rfl rfl rfl ⟨rfl, by decide, by decide, by decide +kernel⟩ ⟨Nat.le_of_ble_eq_true rfl, Nat.le_of_ble_eq_true rfl⟩) rfl hl.1 rfl (Nat.le_of_ble_eq_true rfl) dM_about_3 ⟨Nat.zero_le _, Nat.zero_le _⟩ ?_
  refine lv_if_ne (tgt := 13) hx hb dM_about_6 (by decide) (fun hc3 => ?_) (fun hc3 => ?_)
  · replace hr := (if_neg hc3).symm.trans hr
    refine lv_iload_n hx hb dM_about_13 rfl (lv_at hl 2 rfl) ?_
    refine lv_if_lt (tgt := 22) hx hb dM_about_14 (by decide) (fun hc4 => ?_) (fun hc4 => ?_)
    · replace hr := (if_pos hc4).symm.trans hr
      refine lv_iconst (v := 2) hx hb dM_about_22 (by decide) ?_
      refine lv_goto (tgt := 27) hx hb dM_about_23 (by decide) ?_
      refine tp_ptM0 S hK hP hD hS tp_mM_f0 dM_about_27 (fun H locs hP hD hS => ?_)
      refine lv_aload_n hx hb dM_about_30 rfl (lv_at hl 0 rfl) ?_
      refine tp_gtM S hK hP 0 (by decide) (v := .int 2) tp_mM_f0 rfl dM_about_31 ?_
      refine lv_if_le (tgt := 39) hx hb dM_about_34 (by decide) (fun z => absurd z (by decide)) (fun _ => ?_)
      refine lv_iconst (v := 0) hx hb dM_about_37 (by decide) ?_
      obtain rfl := Option.some.inj hr
      exact W.iret (v := 0) hx hb hrt (fun t ht _ => ⟨rfl, by rw [ht]; exact hP, hS.F ht⟩) hS.2.2 dM_about_38 hlocks
    · replace hr := (if_neg hc4).symm.trans hr
      refine lv_iload_n hx hb dM_about_17 rfl (lv_at hl 2 rfl) ?_
      refine lv_iconst (v := 3) hx hb dM_about_18 (by decide) ?_
      refine lv_icmp_le (tgt := 26) hx hb dM_about_19 (by decide) (fun hc5 => ?_) (fun hc5 => ?_)
      · replace hr := (if_pos hc5).symm.trans hr
        refine lv_iconst (v := 0) hx hb dM_about_26 (by decide) ?_
        refine tp_ptM0 S hK hP hD hS tp_mM_f0 dM_about_27 (fun H locs hP hD hS => ?_)
        refine lv_aload_n hx hb dM_about_30 rfl (lv_at hl 0 rfl) ?_
        refine tp_gtM S hK hP 0 (by decide) (v := .int 0) tp_mM_f0 rfl dM_about_31 ?_
        refine lv_if_le (tgt := 39) hx hb dM_about_34 (by decide) (fun _ => ?_) (fun z => absurd (by decide) z)
        refine lv_iload_n hx hb dM_about_39 rfl (lv_at hl 2 rfl) ?_
        refine lv_iconst (v := 3) hx hb dM_about_40 (by decide) ?_
        refine lv_icmp_ge (tgt := 85) hx hb dM_about_41 (by decide) (fun hc6 => ?_) (fun hc6 => ?_)
        · replace hr := (if_pos hc6).symm.trans hr
          refine lv_iconst (v := 0) hx hb dM_about_85 (by decide) ?_
          refine lv_istore_n hx hb dM_about_86 rfl hl (by decide) rfl (fun ls hl => ?_)
          have hl : lv_has ls 4 [(3, .int 0), (0, .ref h), (1, .int x1), (2, .int x2)] := hl
          have loop87 : ∀ (n87 : Nat) (x3 : Int32) (σ87 : tp_St) (H : Heap) (locs : List Loc) (ls : Array Slot), fM_about_L87 x1 n87 x3 σ87 = some r → lv_has ls 4 [(0, .ref h), (1, .int x1), (3, .int x3)] → va_P D tp_CL (tp_wM h a cI cZ σ87) H → va_D (va_A (tp_wM h a cI cZ σ) s.heap.size) (tp_wM h a cI cZ σ87) → va_S (va_A (tp_wM h a cI cZ σ) s.heap.size) s.heap H locs → W p l e { frames := 3, cells := 0, slots := 0, locals := 66 } s m (([.ref h, .int x1, .int x2] : List Value).toArray) below meth c H locs 0 0 (MQ below (tp_qW (some (.int r.1)) D (tp_wM h a cI cZ r.2) (va_A (tp_wM h a cI cZ σ) s.heap.size)) (([.ref h, .int x1, .int x2] : List Value).toArray) s 0 0 (va_A (tp_wM h a cI cZ σ) s.heap.size)) (F0 m 87 ls []) := by
            intro n87
            induction n87 with
            | zero => intro x3 σ87 H locs ls hr hl hP hD hS; exact nomatch (show (none : Option (Int32 × tp_St)) = some r from hr)
            | succ n87 ih87 =>
              intro x3 σ87 H locs ls hr hl hP hD hS
              rw [fM_about_L87] at hr
              refine lv_iload_n hx hb dM_about_87 rfl (lv_at hl 2 rfl) ?_
              refine lv_sipush (v := 400) hx hb dM_about_88 (by decide) ?_
              refine lv_icmp_ge (tgt := 111) hx hb dM_about_91 (by decide) (fun hc7 => ?_) (fun hc7 => ?_)
              · replace hr := (if_pos hc7).symm.trans hr
                refine lv_iconst (v := (-1)) hx hb dM_about_111 (by decide) ?_
                obtain rfl := Option.some.inj hr
                exact W.iret (v := (-1)) hx hb hrt (fun t ht _ => ⟨rfl, by rw [ht]; exact hP, hS.F ht⟩) hS.2.2 dM_about_112 hlocks
              · replace hr := (if_neg hc7).symm.trans hr
                refine lv_aload_n hx hb dM_about_94 rfl (lv_at hl 0 rfl) ?_
                refine lv_iload_n hx hb dM_about_95 rfl (lv_at hl 2 rfl) ?_
                refine lv_iload_n hx hb dM_about_96 rfl (lv_at hl 1 rfl) ?_
                obtain ⟨q8, hq9, hr⟩ := Option.bind_eq_some_iff.mp hr
                refine tp_kP (rest := []) S hK hP hD rfl rfl (cM_isOn l D h a cI cZ _ σ87 x3 x1 q8 hq9) (cwV 2 hTB tp_gM_isOn rfl rfl rfl ⟨rfl, by decide, by decide, by decide +kernel⟩ ⟨Nat.le_of_ble_eq_true rfl, Nat.le_of_ble_eq_true rfl⟩) rfl hl.1 rfl (Nat.le_of_ble_eq_true rfl) dM_about_97 ⟨Nat.zero_le _, Nat.zero_le _⟩ ?_
                refine lv_if_eq (tgt := 105) hx hb dM_about_100 (by decide) (fun hc10 => ?_) (fun hc10 => ?_)
                · replace hr := (if_pos hc10).symm.trans hr
                  refine lv_iinc (k := 2) (v := (x3 + 1)) hx hb dM_about_105 hl rfl (tp_ii1 _) (by decide) rfl (fun ls hl => ?_)
                  have hl : lv_has ls 4 [(3, .int (x3 + 1)), (0, .ref h), (1, .int x1)] := hl
                  refine lv_goto (tgt := 87) hx hb dM_about_108 (by decide) ?_
                  exact ih87 (x3 + 1) σ87 H locs ls hr (lv_sub hl [1, 2, 0] rfl) hP hD hS
                · replace hr := (if_neg hc10).symm.trans hr
                  refine lv_iload_n hx hb dM_about_103 rfl (lv_at hl 2 rfl) ?_
                  obtain rfl := Option.some.inj hr
                  exact W.iret (v := x3) hx hb hrt (fun t ht _ => ⟨rfl, by rw [ht]; exact hP, hS.F ht⟩) hS.2.2 dM_about_104 hlocks
          exact loop87 401 0 (tp_up σ 0 0 0) _ _ ls hr (lv_sub hl [1, 2, 0] rfl) hP hD hS
        · replace hr := (if_neg hc6).symm.trans hr
          refine lv_iload_n hx hb dM_about_44 rfl (lv_at hl 2 rfl) ?_
          refine lv_if_ne (tgt := 57) hx hb dM_about_45 (by decide) (fun hc11 => ?_) (fun hc11 => ?_)
          · replace hr := (if_neg hc11).symm.trans hr
            refine lv_iload_n hx hb dM_about_57 rfl (lv_at hl 2 rfl) ?_
            refine lv_iconst (v := 1) hx hb dM_about_58 (by decide) ?_
            refine lv_icmp_ne (tgt := 70) hx hb dM_about_59 (by decide) (fun hc12 => ?_) (fun hc12 => ?_)
            · replace hr := (if_neg hc12).symm.trans hr
              refine lv_aload_n hx hb dM_about_70 rfl (lv_at hl 0 rfl) ?_
              refine tp_gtM S hK hP 2 (by decide) (v := .ref (a 2)) tp_mM_f2 rfl dM_about_71 ?_
              refine lv_iload_n hx hb dM_about_74 rfl (lv_at hl 1 rfl) ?_
              by_cases hb13 : tp_oob x1 12
              · exact nomatch ((if_pos hb13).symm.trans hr)
              replace hr := (if_neg hb13).symm.trans hr
              refine va_zald hx hb hK hP 2 1 rfl rfl hb13 dM_about_75 ?_
              refine lv_if_eq (tgt := 83) hx hb dM_about_76 (by decide) (fun hc14 => ?_) (fun hc14 => ?_)
              · replace hr := (if_pos hc14).symm.trans hr
                refine lv_iconst (v := 0) hx hb dM_about_83 (by decide) ?_
                obtain rfl := Option.some.inj hr
                exact W.iret (v := 0) hx hb hrt (fun t ht _ => ⟨rfl, by rw [ht]; exact hP, hS.F ht⟩) hS.2.2 dM_about_84 hlocks
              · replace hr := (if_neg hc14).symm.trans hr
                refine lv_iconst (v := 1) hx hb dM_about_79 (by decide) ?_
                refine lv_goto (tgt := 84) hx hb dM_about_80 (by decide) ?_
                obtain rfl := Option.some.inj hr
                exact W.iret (v := 1) hx hb hrt (fun t ht _ => ⟨rfl, by rw [ht]; exact hP, hS.F ht⟩) hS.2.2 dM_about_84 hlocks
            · replace hr := (if_pos hc12).symm.trans hr
              refine lv_aload_n hx hb dM_about_62 rfl (lv_at hl 0 rfl) ?_
              refine lv_iload_n hx hb dM_about_63 rfl (lv_at hl 1 rfl) ?_
              obtain ⟨q15, hq16, hr⟩ := Option.bind_eq_some_iff.mp hr
              refine tp_kP (rest := []) S hK hP hD rfl rfl (cM_freeOn l D h a cI cZ _ (tp_up σ 0 0 0) x1 q15 hq16) (cwV 1 hTB tp_gM_freeOn rfl rfl rfl ⟨rfl, by decide, by decide, by decide +kernel⟩ ⟨Nat.le_of_ble_eq_true rfl, Nat.le_of_ble_eq_true rfl⟩) rfl hl.1 rfl (Nat.le_of_ble_eq_true rfl) dM_about_64 ⟨Nat.zero_le _, Nat.zero_le _⟩ ?_
              refine lv_goto (tgt := 84) hx hb dM_about_67 (by decide) ?_
              obtain rfl := Option.some.inj hr
              exact W.iret (v := q15) hx hb hrt (fun t ht _ => ⟨rfl, by rw [ht]; exact hP, hS.F ht⟩) hS.2.2 dM_about_84 hlocks
          · replace hr := (if_pos hc11).symm.trans hr
            refine lv_aload_n hx hb dM_about_48 rfl (lv_at hl 0 rfl) ?_
            refine tp_gtM S hK hP 1 (by decide) (v := .ref (a 1)) tp_mM_f1 rfl dM_about_49 ?_
            refine lv_iload_n hx hb dM_about_52 rfl (lv_at hl 1 rfl) ?_
            by_cases hb17 : tp_oob x1 12
            · exact nomatch ((if_pos hb17).symm.trans hr)
            replace hr := (if_neg hb17).symm.trans hr
            refine va_iald hx hb hK hP 1 0 rfl rfl hb17 dM_about_53 ?_
            refine lv_goto (tgt := 84) hx hb dM_about_54 (by decide) ?_
            obtain rfl := Option.some.inj hr
            exact W.iret (v := ((tp_up σ 0 0 0) 1 x1.toNatClampNeg)) hx hb hrt (fun t ht _ => ⟨rfl, by rw [ht]; exact hP, hS.F ht⟩) hS.2.2 dM_about_84 hlocks
      · replace hr := (if_neg hc5).symm.trans hr
        refine lv_iconst (v := 2) hx hb dM_about_22 (by decide) ?_
        refine lv_goto (tgt := 27) hx hb dM_about_23 (by decide) ?_
        refine tp_ptM0 S hK hP hD hS tp_mM_f0 dM_about_27 (fun H locs hP hD hS => ?_)
        refine lv_aload_n hx hb dM_about_30 rfl (lv_at hl 0 rfl) ?_
        refine tp_gtM S hK hP 0 (by decide) (v := .int 2) tp_mM_f0 rfl dM_about_31 ?_
        refine lv_if_le (tgt := 39) hx hb dM_about_34 (by decide) (fun z => absurd z (by decide)) (fun _ => ?_)
        refine lv_iconst (v := 0) hx hb dM_about_37 (by decide) ?_
        obtain rfl := Option.some.inj hr
        exact W.iret (v := 0) hx hb hrt (fun t ht _ => ⟨rfl, by rw [ht]; exact hP, hS.F ht⟩) hS.2.2 dM_about_38 hlocks
  · replace hr := (if_pos hc3).symm.trans hr
    refine lv_iconst (v := 1) hx hb dM_about_9 (by decide) ?_
    refine lv_goto (tgt := 27) hx hb dM_about_10 (by decide) ?_
    refine tp_ptM0 S hK hP hD hS tp_mM_f0 dM_about_27 (fun H locs hP hD hS => ?_)
    refine lv_aload_n hx hb dM_about_30 rfl (lv_at hl 0 rfl) ?_
    refine tp_gtM S hK hP 0 (by decide) (v := .int 1) tp_mM_f0 rfl dM_about_31 ?_
    refine lv_if_le (tgt := 39) hx hb dM_about_34 (by decide) (fun z => absurd z (by decide)) (fun _ => ?_)
    refine lv_iconst (v := 0) hx hb dM_about_37 (by decide) ?_
    obtain rfl := Option.some.inj hr
    exact W.iret (v := 0) hx hb hrt (fun t ht _ => ⟨rfl, by rw [ht]; exact hP, hS.F ht⟩) hS.2.2 dM_about_38 hlocks
