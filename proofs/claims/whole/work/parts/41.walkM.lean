set_option maxHeartbeats 4000000 in
set_option maxRecDepth 100000 in
theorem cM_emptiest (l : Launch) (D : va_G) (h : Nat) (a : Nat → Nat) (cI cZ : ClassId) (sz : Nat) (σ : tp_St) (x1 : Int32) (x2 : Int32) (r : Int32) (hr : fM_emptiest σ x1 x2 = some r) : Met l tp_yM_emptiest (tp_wsT tp_yM_emptiest tp_bM_emptiest 6 (some .int)) { frames := 3, cells := 0, slots := 0, locals := 66 } (tp_PcW D [(cI, .int), (cZ, .boolean)] (tp_wM h a cI cZ σ) sz [.ref h, .int x1, .int x2]) (tp_qI r) 0 0 tp_noF := by
  refine Met.ofW (cc := tp_bM_emptiest) (maxL := 6) (ret := (some .int)) (by decide) rfl ?_
  intro p e s m args below meth c s₁ B hml hv
  obtain ⟨rfl, hsz, hP, hK, hD0⟩ := hv
  have hx := B.exec
  have hb := B.bytes
  have hrt := B.returns
  have hTB : ∀ w ∈ tp_TB, w.before _ s = true := fun w z => atoms_spec (ws := (tp_wsT tp_yM_emptiest tp_bM_emptiest 6 (some .int))) B.pre w (List.mem_cons_of_mem _ z)
  have hown : s.vm.findClass tp_RM = some m.cls := findClass_of_methodNamed B.named
  have hlocks := B.notSynchronized
  have S : CallFix p m c tp_bM_emptiest 6 s _ tp_TB tp_RM := ⟨hx, hb, hml, hown, hTB⟩
  subst hsz
  have hD : va_D (va_A (tp_wM h a cI cZ σ) s.heap.size) (tp_wM h a cI cZ σ) := hD0.self
  have hl := lv_entry ([.ref h, .int x1, .int x2]) (n := 6) (Nat.le_of_ble_eq_true rfl)
  rw [lg_entry_eq]
  generalize (lg_sl ([.ref h, .int x1, .int x2]) ++ List.replicate (6 - (lg_sl ([.ref h, .int x1, .int x2])).length) Slot.unset).toArray = ls at hl ⊢
  have hl : lv_has ls 6 [(0, .ref h), (1, .int x1), (2, .int x2)] := hl
  rw [fM_emptiest] at hr
  refine lv_iconst (v := (-1)) hx hb dM_emptiest_0 (by decide) ?_
  refine lv_istore_n hx hb dM_emptiest_1 rfl hl (by decide) rfl (fun ls hl => ?_)
  have hl : lv_has ls 6 [(3, .int (-1)), (0, .ref h), (1, .int x1), (2, .int x2)] := hl
  refine lv_iconst (v := 0) hx hb dM_emptiest_2 (by decide) ?_
  refine lv_istore hx hb dM_emptiest_3 hl (by decide) rfl (fun ls hl => ?_)
  have hl : lv_has ls 6 [(4, .int 0), (3, .int (-1)), (0, .ref h), (1, .int x1), (2, .int x2)] := hl
  have loop5 : ∀ (n5 : Nat) (x3 : Int32) (x4 : Int32) (ls : Array Slot), fM_emptiest_L5 σ x1 x2 n5 x3 x4 = some r → lv_has ls 6 [(0, .ref h), (1, .int x1), (2, .int x2), (3, .int x3), (4, .int x4)] → W p l e { frames := 3, cells := 0, slots := 0, locals := 66 } s m (([.ref h, .int x1, .int x2] : List Value).toArray) below meth c s.heap [] 0 0 (MQ below (tp_qI r) (([.ref h, .int x1, .int x2] : List Value).toArray) s 0 0 tp_noF) (F0 m 5 ls []) := by
    intro n5
    induction n5 with
    | zero => intro x3 x4 ls hr hl; exact nomatch (show (none : Option Int32) = some r from hr)
    | succ n5 ih5 =>
      intro x3 x4 ls hr hl
      rw [fM_emptiest_L5] at hr
      refine lv_iload hx hb dM_emptiest_5 (lv_at hl 4 rfl) ?_
      refine lv_bipush (v := 12) hx hb dM_emptiest_7 (by decide) ?_
      refine lv_icmp_ge (tgt := 93) hx hb dM_emptiest_9 (by decide) (fun hc1 => ?_) (fun hc1 => ?_)
      · replace hr := (if_pos hc1).symm.trans hr
        refine lv_iload_n hx hb dM_emptiest_93 rfl (lv_at hl 3 rfl) ?_
        obtain rfl := Option.some.inj hr
        exact W.iret (v := x3) hx hb hrt (fun t ht _ => ⟨rfl, ht⟩) (fun _ z => nomatch z) dM_emptiest_94 hlocks
      · replace hr := (if_neg hc1).symm.trans hr
        refine lv_aload_n hx hb dM_emptiest_12 rfl (lv_at hl 0 rfl) ?_
        refine lv_iload hx hb dM_emptiest_13 (lv_at hl 4 rfl) ?_
        obtain ⟨q2, hq3, hr⟩ := Option.bind_eq_some_iff.mp hr
        refine tp_kP (rest := []) S hK hP hD rfl rfl (cM_stays l D h a cI cZ _ σ x4 q2 hq3) (cwV 1 hTB tp_gM_stays rfl rfl rfl ⟨rfl, by decide, by decide, by decide +kernel⟩ ⟨Nat.le_of_ble_eq_true rfl, Nat.le_of_ble_eq_true rfl⟩) rfl hl.1 rfl (Nat.le_of_ble_eq_true rfl) dM_emptiest_15 ⟨Nat.zero_le _, Nat.zero_le _⟩ ?_
        refine lv_if_eq (tgt := 54) hx hb dM_emptiest_18 (by decide) (fun hc4 => ?_) (fun hc4 => ?_)
        · replace hr := (if_pos hc4).symm.trans hr
          refine lv_iconst (v := 0) hx hb dM_emptiest_54 (by decide) ?_
          refine lv_istore hx hb dM_emptiest_55 hl (by decide) rfl (fun ls hl => ?_)
          have hl : lv_has ls 6 [(5, .int 0), (0, .ref h), (1, .int x1), (2, .int x2), (3, .int x3), (4, .int x4)] := hl
          refine lv_iload hx hb dM_emptiest_57 (lv_at hl 0 rfl) ?_
          refine lv_if_eq (tgt := 85) hx hb dM_emptiest_59 (by decide) (fun _ => ?_) (fun z => absurd (by decide) z)
          refine lv_iload_n hx hb dM_emptiest_85 rfl (lv_at hl 4 rfl) ?_
          refine lv_istore_n hx hb dM_emptiest_86 rfl hl (by decide) rfl (fun ls hl => ?_)
          have hl : lv_has ls 6 [(3, .int x3), (5, .int 0), (0, .ref h), (1, .int x1), (2, .int x2), (4, .int x4)] := hl
          refine lv_iinc (k := 5) (v := (x4 + 1)) hx hb dM_emptiest_87 hl rfl (tp_ii1 _) (by decide) rfl (fun ls hl => ?_)
          have hl : lv_has ls 6 [(4, .int (x4 + 1)), (3, .int x3), (5, .int 0), (0, .ref h), (1, .int x1), (2, .int x2)] := hl
          refine lv_goto (tgt := 5) hx hb dM_emptiest_90 (by decide) ?_
          exact ih5 x3 (x4 + 1) ls hr (lv_sub hl [3, 4, 5, 1, 0] rfl)
        · replace hr := (if_neg hc4).symm.trans hr
          refine lv_iload hx hb dM_emptiest_21 (lv_at hl 4 rfl) ?_
          refine lv_iload_n hx hb dM_emptiest_23 rfl (lv_at hl 1 rfl) ?_
          refine lv_icmp_eq (tgt := 54) hx hb dM_emptiest_24 (by decide) (fun hc5 => ?_) (fun hc5 => ?_)
          · replace hr := (if_pos hc5).symm.trans hr
            refine lv_iconst (v := 0) hx hb dM_emptiest_54 (by decide) ?_
            refine lv_istore hx hb dM_emptiest_55 hl (by decide) rfl (fun ls hl => ?_)
            have hl : lv_has ls 6 [(5, .int 0), (0, .ref h), (1, .int x1), (2, .int x2), (3, .int x3), (4, .int x4)] := hl
            refine lv_iload hx hb dM_emptiest_57 (lv_at hl 0 rfl) ?_
            refine lv_if_eq (tgt := 85) hx hb dM_emptiest_59 (by decide) (fun _ => ?_) (fun z => absurd (by decide) z)
            refine lv_iload_n hx hb dM_emptiest_85 rfl (lv_at hl 4 rfl) ?_
            refine lv_istore_n hx hb dM_emptiest_86 rfl hl (by decide) rfl (fun ls hl => ?_)
            have hl : lv_has ls 6 [(3, .int x3), (5, .int 0), (0, .ref h), (1, .int x1), (2, .int x2), (4, .int x4)] := hl
            refine lv_iinc (k := 5) (v := (x4 + 1)) hx hb dM_emptiest_87 hl rfl (tp_ii1 _) (by decide) rfl (fun ls hl => ?_)
            have hl : lv_has ls 6 [(4, .int (x4 + 1)), (3, .int x3), (5, .int 0), (0, .ref h), (1, .int x1), (2, .int x2)] := hl
            refine lv_goto (tgt := 5) hx hb dM_emptiest_90 (by decide) ?_
            exact ih5 x3 (x4 + 1) ls hr (lv_sub hl [3, 4, 5, 1, 0] rfl)
          · replace hr := (if_neg hc5).symm.trans hr
            refine lv_aload_n hx hb dM_emptiest_27 rfl (lv_at hl 0 rfl) ?_
            refine lv_iload hx hb dM_emptiest_28 (lv_at hl 4 rfl) ?_
            obtain ⟨q6, hq7, hr⟩ := Option.bind_eq_some_iff.mp hr
            refine tp_kP (rest := []) S hK hP hD rfl rfl (cM_freeOn l D h a cI cZ _ σ x4 q6 hq7) (cwV 1 hTB tp_gM_freeOn rfl rfl rfl ⟨rfl, by decide, by decide, by decide +kernel⟩ ⟨Nat.le_of_ble_eq_true rfl, Nat.le_of_ble_eq_true rfl⟩) rfl hl.1 rfl (Nat.le_of_ble_eq_true rfl) dM_emptiest_30 ⟨Nat.zero_le _, Nat.zero_le _⟩ ?_
            refine lv_if_le (tgt := 54) hx hb dM_emptiest_33 (by decide) (fun hc8 => ?_) (fun hc8 => ?_)
            · replace hr := (if_pos hc8).symm.trans hr
              refine lv_iconst (v := 0) hx hb dM_emptiest_54 (by decide) ?_
              refine lv_istore hx hb dM_emptiest_55 hl (by decide) rfl (fun ls hl => ?_)
              have hl : lv_has ls 6 [(5, .int 0), (0, .ref h), (1, .int x1), (2, .int x2), (3, .int x3), (4, .int x4)] := hl
              refine lv_iload hx hb dM_emptiest_57 (lv_at hl 0 rfl) ?_
              refine lv_if_eq (tgt := 85) hx hb dM_emptiest_59 (by decide) (fun _ => ?_) (fun z => absurd (by decide) z)
              refine lv_iload_n hx hb dM_emptiest_85 rfl (lv_at hl 4 rfl) ?_
              refine lv_istore_n hx hb dM_emptiest_86 rfl hl (by decide) rfl (fun ls hl => ?_)
              have hl : lv_has ls 6 [(3, .int x3), (5, .int 0), (0, .ref h), (1, .int x1), (2, .int x2), (4, .int x4)] := hl
              refine lv_iinc (k := 5) (v := (x4 + 1)) hx hb dM_emptiest_87 hl rfl (tp_ii1 _) (by decide) rfl (fun ls hl => ?_)
              have hl : lv_has ls 6 [(4, .int (x4 + 1)), (3, .int x3), (5, .int 0), (0, .ref h), (1, .int x1), (2, .int x2)] := hl
              refine lv_goto (tgt := 5) hx hb dM_emptiest_90 (by decide) ?_
              exact ih5 x3 (x4 + 1) ls hr (lv_sub hl [3, 4, 5, 1, 0] rfl)
            · replace hr := (if_neg hc8).symm.trans hr
              refine lv_iload_n hx hb dM_emptiest_36 rfl (lv_at hl 2 rfl) ?_
              refine lv_if_lt (tgt := 50) hx hb dM_emptiest_37 (by decide) (fun hc9 => ?_) (fun hc9 => ?_)
              · replace hr := (if_pos hc9).symm.trans hr
                refine lv_iconst (v := 1) hx hb dM_emptiest_50 (by decide) ?_
                refine lv_goto (tgt := 55) hx hb dM_emptiest_51 (by decide) ?_
                refine lv_istore hx hb dM_emptiest_55 hl (by decide) rfl (fun ls hl => ?_)
                have hl : lv_has ls 6 [(5, .int 1), (0, .ref h), (1, .int x1), (2, .int x2), (3, .int x3), (4, .int x4)] := hl
                refine lv_iload hx hb dM_emptiest_57 (lv_at hl 0 rfl) ?_
                refine lv_if_eq (tgt := 85) hx hb dM_emptiest_59 (by decide) (fun z => absurd z (by decide)) (fun _ => ?_)
                refine lv_iload_n hx hb dM_emptiest_62 rfl (lv_at hl 4 rfl) ?_
                refine lv_if_lt (tgt := 80) hx hb dM_emptiest_63 (by decide) (fun hc10 => ?_) (fun hc10 => ?_)
                · replace hr := (if_pos hc10).symm.trans hr
                  refine lv_iload hx hb dM_emptiest_80 (lv_at hl 5 rfl) ?_
                  refine lv_goto (tgt := 86) hx hb dM_emptiest_82 (by decide) ?_
                  refine lv_istore_n hx hb dM_emptiest_86 rfl hl (by decide) rfl (fun ls hl => ?_)
                  have hl : lv_has ls 6 [(3, .int x4), (5, .int 1), (0, .ref h), (1, .int x1), (2, .int x2), (4, .int x4)] := hl
                  refine lv_iinc (k := 5) (v := (x4 + 1)) hx hb dM_emptiest_87 hl rfl (tp_ii1 _) (by decide) rfl (fun ls hl => ?_)
                  have hl : lv_has ls 6 [(4, .int (x4 + 1)), (3, .int x4), (5, .int 1), (0, .ref h), (1, .int x1), (2, .int x2)] := hl
                  refine lv_goto (tgt := 5) hx hb dM_emptiest_90 (by decide) ?_
                  exact ih5 x4 (x4 + 1) ls hr (lv_sub hl [3, 4, 5, 1, 0] rfl)
                · replace hr := (if_neg hc10).symm.trans hr
                  refine lv_aload_n hx hb dM_emptiest_66 rfl (lv_at hl 1 rfl) ?_
                  refine lv_iload hx hb dM_emptiest_67 (lv_at hl 5 rfl) ?_
                  obtain ⟨q11, hq12, hr⟩ := Option.bind_eq_some_iff.mp hr
                  refine tp_kP (rest := []) S hK hP hD rfl rfl (cM_freeOn l D h a cI cZ _ σ x4 q11 hq12) (cwV 1 hTB tp_gM_freeOn rfl rfl rfl ⟨rfl, by decide, by decide, by decide +kernel⟩ ⟨Nat.le_of_ble_eq_true rfl, Nat.le_of_ble_eq_true rfl⟩) rfl hl.1 rfl (Nat.le_of_ble_eq_true rfl) dM_emptiest_69 ⟨Nat.zero_le _, Nat.zero_le _⟩ ?_
                  refine lv_aload_n hx hb dM_emptiest_72 rfl (lv_at hl 1 rfl) ?_
                  refine lv_iload_n hx hb dM_emptiest_73 rfl (lv_at hl 4 rfl) ?_
                  obtain ⟨q13, hq14, hr⟩ := Option.bind_eq_some_iff.mp hr
                  refine tp_kP (rest := [.int q11]) S hK hP hD rfl rfl (cM_freeOn l D h a cI cZ _ σ x3 q13 hq14) (cwV 1 hTB tp_gM_freeOn rfl rfl rfl ⟨rfl, by decide, by decide, by decide +kernel⟩ ⟨Nat.le_of_ble_eq_true rfl, Nat.le_of_ble_eq_true rfl⟩) rfl hl.1 rfl (Nat.le_of_ble_eq_true rfl) dM_emptiest_74 ⟨Nat.zero_le _, Nat.zero_le _⟩ ?_
                  refine lv_icmp_le (tgt := 85) hx hb dM_emptiest_77 (by decide) (fun hc15 => ?_) (fun hc15 => ?_)
                  · replace hr := (if_pos hc15).symm.trans hr
                    refine lv_iload_n hx hb dM_emptiest_85 rfl (lv_at hl 4 rfl) ?_
                    refine lv_istore_n hx hb dM_emptiest_86 rfl hl (by decide) rfl (fun ls hl => ?_)
                    have hl : lv_has ls 6 [(3, .int x3), (5, .int 1), (0, .ref h), (1, .int x1), (2, .int x2), (4, .int x4)] := hl
                    refine lv_iinc (k := 5) (v := (x4 + 1)) hx hb dM_emptiest_87 hl rfl (tp_ii1 _) (by decide) rfl (fun ls hl => ?_)
                    have hl : lv_has ls 6 [(4, .int (x4 + 1)), (3, .int x3), (5, .int 1), (0, .ref h), (1, .int x1), (2, .int x2)] := hl
                    refine lv_goto (tgt := 5) hx hb dM_emptiest_90 (by decide) ?_
                    exact ih5 x3 (x4 + 1) ls hr (lv_sub hl [3, 4, 5, 1, 0] rfl)
                  · replace hr := (if_neg hc15).symm.trans hr
                    refine lv_iload hx hb dM_emptiest_80 (lv_at hl 5 rfl) ?_
                    refine lv_goto (tgt := 86) hx hb dM_emptiest_82 (by decide) ?_
                    refine lv_istore_n hx hb dM_emptiest_86 rfl hl (by decide) rfl (fun ls hl => ?_)
                    have hl : lv_has ls 6 [(3, .int x4), (5, .int 1), (0, .ref h), (1, .int x1), (2, .int x2), (4, .int x4)] := hl
                    refine lv_iinc (k := 5) (v := (x4 + 1)) hx hb dM_emptiest_87 hl rfl (tp_ii1 _) (by decide) rfl (fun ls hl => ?_)
                    have hl : lv_has ls 6 [(4, .int (x4 + 1)), (3, .int x4), (5, .int 1), (0, .ref h), (1, .int x1), (2, .int x2)] := hl
                    refine lv_goto (tgt := 5) hx hb dM_emptiest_90 (by decide) ?_
                    exact ih5 x4 (x4 + 1) ls hr (lv_sub hl [3, 4, 5, 1, 0] rfl)
              · replace hr := (if_neg hc9).symm.trans hr
                refine lv_aload_n hx hb dM_emptiest_40 rfl (lv_at hl 0 rfl) ?_
                refine lv_iload_n hx hb dM_emptiest_41 rfl (lv_at hl 2 rfl) ?_
                refine lv_iload hx hb dM_emptiest_42 (lv_at hl 4 rfl) ?_
                obtain ⟨q16, hq17, hr⟩ := Option.bind_eq_some_iff.mp hr
                refine tp_kP (rest := []) S hK hP hD rfl rfl (cM_isOn l D h a cI cZ _ σ x2 x4 q16 hq17) (cwV 2 hTB tp_gM_isOn rfl rfl rfl ⟨rfl, by decide, by decide, by decide +kernel⟩ ⟨Nat.le_of_ble_eq_true rfl, Nat.le_of_ble_eq_true rfl⟩) rfl hl.1 rfl (Nat.le_of_ble_eq_true rfl) dM_emptiest_44 ⟨Nat.zero_le _, Nat.zero_le _⟩ ?_
                refine lv_if_ne (tgt := 54) hx hb dM_emptiest_47 (by decide) (fun hc18 => ?_) (fun hc18 => ?_)
                · replace hr := (if_neg hc18).symm.trans hr
                  refine lv_iconst (v := 0) hx hb dM_emptiest_54 (by decide) ?_
                  refine lv_istore hx hb dM_emptiest_55 hl (by decide) rfl (fun ls hl => ?_)
                  have hl : lv_has ls 6 [(5, .int 0), (0, .ref h), (1, .int x1), (2, .int x2), (3, .int x3), (4, .int x4)] := hl
                  refine lv_iload hx hb dM_emptiest_57 (lv_at hl 0 rfl) ?_
                  refine lv_if_eq (tgt := 85) hx hb dM_emptiest_59 (by decide) (fun _ => ?_) (fun z => absurd (by decide) z)
                  refine lv_iload_n hx hb dM_emptiest_85 rfl (lv_at hl 4 rfl) ?_
                  refine lv_istore_n hx hb dM_emptiest_86 rfl hl (by decide) rfl (fun ls hl => ?_)
                  have hl : lv_has ls 6 [(3, .int x3), (5, .int 0), (0, .ref h), (1, .int x1), (2, .int x2), (4, .int x4)] := hl
                  refine lv_iinc (k := 5) (v := (x4 + 1)) hx hb dM_emptiest_87 hl rfl (tp_ii1 _) (by decide) rfl (fun ls hl => ?_)
                  have hl : lv_has ls 6 [(4, .int (x4 + 1)), (3, .int x3), (5, .int 0), (0, .ref h), (1, .int x1), (2, .int x2)] := hl
                  refine lv_goto (tgt := 5) hx hb dM_emptiest_90 (by decide) ?_
                  exact ih5 x3 (x4 + 1) ls hr (lv_sub hl [3, 4, 5, 1, 0] rfl)
                · replace hr := (if_pos hc18).symm.trans hr
                  refine lv_iconst (v := 1) hx hb dM_emptiest_50 (by decide) ?_
                  refine lv_goto (tgt := 55) hx hb dM_emptiest_51 (by decide) ?_
                  refine lv_istore hx hb dM_emptiest_55 hl (by decide) rfl (fun ls hl => ?_)
                  have hl : lv_has ls 6 [(5, .int 1), (0, .ref h), (1, .int x1), (2, .int x2), (3, .int x3), (4, .int x4)] := hl
                  refine lv_iload hx hb dM_emptiest_57 (lv_at hl 0 rfl) ?_
                  refine lv_if_eq (tgt := 85) hx hb dM_emptiest_59 (by decide) (fun z => absurd z (by decide)) (fun _ => ?_)
                  refine lv_iload_n hx hb dM_emptiest_62 rfl (lv_at hl 4 rfl) ?_
                  refine lv_if_lt (tgt := 80) hx hb dM_emptiest_63 (by decide) (fun hc19 => ?_) (fun hc19 => ?_)
                  · replace hr := (if_pos hc19).symm.trans hr
                    refine lv_iload hx hb dM_emptiest_80 (lv_at hl 5 rfl) ?_
                    refine lv_goto (tgt := 86) hx hb dM_emptiest_82 (by decide) ?_
                    refine lv_istore_n hx hb dM_emptiest_86 rfl hl (by decide) rfl (fun ls hl => ?_)
                    have hl : lv_has ls 6 [(3, .int x4), (5, .int 1), (0, .ref h), (1, .int x1), (2, .int x2), (4, .int x4)] := hl
                    refine lv_iinc (k := 5) (v := (x4 + 1)) hx hb dM_emptiest_87 hl rfl (tp_ii1 _) (by decide) rfl (fun ls hl => ?_)
                    have hl : lv_has ls 6 [(4, .int (x4 + 1)), (3, .int x4), (5, .int 1), (0, .ref h), (1, .int x1), (2, .int x2)] := hl
                    refine lv_goto (tgt := 5) hx hb dM_emptiest_90 (by decide) ?_
                    exact ih5 x4 (x4 + 1) ls hr (lv_sub hl [3, 4, 5, 1, 0] rfl)
                  · replace hr := (if_neg hc19).symm.trans hr
                    refine lv_aload_n hx hb dM_emptiest_66 rfl (lv_at hl 1 rfl) ?_
                    refine lv_iload hx hb dM_emptiest_67 (lv_at hl 5 rfl) ?_
                    obtain ⟨q20, hq21, hr⟩ := Option.bind_eq_some_iff.mp hr
                    refine tp_kP (rest := []) S hK hP hD rfl rfl (cM_freeOn l D h a cI cZ _ σ x4 q20 hq21) (cwV 1 hTB tp_gM_freeOn rfl rfl rfl ⟨rfl, by decide, by decide, by decide +kernel⟩ ⟨Nat.le_of_ble_eq_true rfl, Nat.le_of_ble_eq_true rfl⟩) rfl hl.1 rfl (Nat.le_of_ble_eq_true rfl) dM_emptiest_69 ⟨Nat.zero_le _, Nat.zero_le _⟩ ?_
                    refine lv_aload_n hx hb dM_emptiest_72 rfl (lv_at hl 1 rfl) ?_
                    refine lv_iload_n hx hb dM_emptiest_73 rfl (lv_at hl 4 rfl) ?_
                    obtain ⟨q22, hq23, hr⟩ := Option.bind_eq_some_iff.mp hr
                    refine tp_kP (rest := [.int q20]) S hK hP hD rfl rfl (cM_freeOn l D h a cI cZ _ σ x3 q22 hq23) (cwV 1 hTB tp_gM_freeOn rfl rfl rfl ⟨rfl, by decide, by decide, by decide +kernel⟩ ⟨Nat.le_of_ble_eq_true rfl, Nat.le_of_ble_eq_true rfl⟩) rfl hl.1 rfl (Nat.le_of_ble_eq_true rfl) dM_emptiest_74 ⟨Nat.zero_le _, Nat.zero_le _⟩ ?_
                    refine lv_icmp_le (tgt := 85) hx hb dM_emptiest_77 (by decide) (fun hc24 => ?_) (fun hc24 => ?_)
                    · replace hr := (if_pos hc24).symm.trans hr
                      refine lv_iload_n hx hb dM_emptiest_85 rfl (lv_at hl 4 rfl) ?_
                      refine lv_istore_n hx hb dM_emptiest_86 rfl hl (by decide) rfl (fun ls hl => ?_)
                      have hl : lv_has ls 6 [(3, .int x3), (5, .int 1), (0, .ref h), (1, .int x1), (2, .int x2), (4, .int x4)] := hl
                      refine lv_iinc (k := 5) (v := (x4 + 1)) hx hb dM_emptiest_87 hl rfl (tp_ii1 _) (by decide) rfl (fun ls hl => ?_)
                      have hl : lv_has ls 6 [(4, .int (x4 + 1)), (3, .int x3), (5, .int 1), (0, .ref h), (1, .int x1), (2, .int x2)] := hl
                      refine lv_goto (tgt := 5) hx hb dM_emptiest_90 (by decide) ?_
                      exact ih5 x3 (x4 + 1) ls hr (lv_sub hl [3, 4, 5, 1, 0] rfl)
                    · replace hr := (if_neg hc24).symm.trans hr
                      refine lv_iload hx hb dM_emptiest_80 (lv_at hl 5 rfl) ?_
                      refine lv_goto (tgt := 86) hx hb dM_emptiest_82 (by decide) ?_
                      refine lv_istore_n hx hb dM_emptiest_86 rfl hl (by decide) rfl (fun ls hl => ?_)
                      have hl : lv_has ls 6 [(3, .int x4), (5, .int 1), (0, .ref h), (1, .int x1), (2, .int x2), (4, .int x4)] := hl
                      refine lv_iinc (k := 5) (v := (x4 + 1)) hx hb dM_emptiest_87 hl rfl (tp_ii1 _) (by decide) rfl (fun ls hl => ?_)
                      have hl : lv_has ls 6 [(4, .int (x4 + 1)), (3, .int x4), (5, .int 1), (0, .ref h), (1, .int x1), (2, .int x2)] := hl
                      refine lv_goto (tgt := 5) hx hb dM_emptiest_90 (by decide) ?_
                      exact ih5 x4 (x4 + 1) ls hr (lv_sub hl [3, 4, 5, 1, 0] rfl)
  exact loop5 13 (-1) 0 ls hr (lv_sub hl [2, 3, 4, 1, 0] rfl)
set_option maxHeartbeats 4000000 in
set_option maxRecDepth 100000 in
theorem cM_capacity (l : Launch) (D : va_G) (h : Nat) (a : Nat → Nat) (cI cZ : ClassId) (sz : Nat) (σ : tp_St) (x1 : Int32) (r : Int32) (hr : fM_capacity σ x1 = some r) : Met l tp_yM_capacity (tp_wsT tp_yM_capacity tp_bM_capacity 5 (some .int)) { frames := 1, cells := 0, slots := 0, locals := 21 } (tp_PcW D [(cI, .int), (cZ, .boolean)] (tp_wM h a cI cZ σ) sz [.ref h, .int x1]) (tp_qI r) 0 0 tp_noF := by
  refine Met.ofW (cc := tp_bM_capacity) (maxL := 5) (ret := (some .int)) (by decide) rfl ?_
  intro p e s m args below meth c s₁ B hml hv
  obtain ⟨rfl, hsz, hP, hK, hD0⟩ := hv
  have hx := B.exec
  have hb := B.bytes
  have hrt := B.returns
  have hTB : ∀ w ∈ tp_TB, w.before _ s = true := fun w z => atoms_spec (ws := (tp_wsT tp_yM_capacity tp_bM_capacity 5 (some .int))) B.pre w (List.mem_cons_of_mem _ z)
  have hown : s.vm.findClass tp_RM = some m.cls := findClass_of_methodNamed B.named
  have hlocks := B.notSynchronized
  have S : CallFix p m c tp_bM_capacity 5 s _ tp_TB tp_RM := ⟨hx, hb, hml, hown, hTB⟩
  subst hsz
  have hD : va_D (va_A (tp_wM h a cI cZ σ) s.heap.size) (tp_wM h a cI cZ σ) := hD0.self
  have hl := lv_entry ([.ref h, .int x1]) (n := 5) (Nat.le_of_ble_eq_true rfl)
  rw [lg_entry_eq]
  generalize (lg_sl ([.ref h, .int x1]) ++ List.replicate (5 - (lg_sl ([.ref h, .int x1])).length) Slot.unset).toArray = ls at hl ⊢
  have hl : lv_has ls 5 [(0, .ref h), (1, .int x1)] := hl
  rw [fM_capacity] at hr
  refine lv_iconst (v := 0) hx hb dM_capacity_0 (by decide) ?_
  refine lv_istore_n hx hb dM_capacity_1 rfl hl (by decide) rfl (fun ls hl => ?_)
  have hl : lv_has ls 5 [(2, .int 0), (0, .ref h), (1, .int x1)] := hl
  refine lv_iconst (v := 0) hx hb dM_capacity_2 (by decide) ?_
  refine lv_istore_n hx hb dM_capacity_3 rfl hl (by decide) rfl (fun ls hl => ?_)
  have hl : lv_has ls 5 [(3, .int 0), (2, .int 0), (0, .ref h), (1, .int x1)] := hl
  refine lv_iconst (v := 0) hx hb dM_capacity_4 (by decide) ?_
  refine lv_istore hx hb dM_capacity_5 hl (by decide) rfl (fun ls hl => ?_)
  have hl : lv_has ls 5 [(4, .int 0), (3, .int 0), (2, .int 0), (0, .ref h), (1, .int x1)] := hl
  have loop7 : ∀ (n7 : Nat) (x2 : Int32) (x3 : Int32) (x4 : Int32) (ls : Array Slot), fM_capacity_L7 σ x1 n7 x2 x3 x4 = some r → lv_has ls 5 [(0, .ref h), (1, .int x1), (2, .int x2), (3, .int x3), (4, .int x4)] → W p l e { frames := 1, cells := 0, slots := 0, locals := 21 } s m (([.ref h, .int x1] : List Value).toArray) below meth c s.heap [] 0 0 (MQ below (tp_qI r) (([.ref h, .int x1] : List Value).toArray) s 0 0 tp_noF) (F0 m 7 ls []) := by
    intro n7
    induction n7 with
    | zero => intro x2 x3 x4 ls hr hl; exact nomatch (show (none : Option Int32) = some r from hr)
    | succ n7 ih7 =>
      intro x2 x3 x4 ls hr hl
      rw [fM_capacity_L7] at hr
      refine lv_iload hx hb dM_capacity_7 (lv_at hl 4 rfl) ?_
      refine lv_bipush (v := 12) hx hb dM_capacity_9 (by decide) ?_
      refine lv_icmp_ge (tgt := 68) hx hb dM_capacity_11 (by decide) (fun hc1 => ?_) (fun hc1 => ?_)
      · replace hr := (if_pos hc1).symm.trans hr
        refine lv_iload_n hx hb dM_capacity_68 rfl (lv_at hl 2 rfl) ?_
        refine lv_iconst (v := 2) hx hb dM_capacity_69 (by decide) ?_
        refine lv_idiv hx hb dM_capacity_70 (by decide) ?_
        refine lv_iload_n hx hb dM_capacity_71 rfl (lv_at hl 2 rfl) ?_
        refine lv_iload_n hx hb dM_capacity_72 rfl (lv_at hl 3 rfl) ?_
        refine lv_isub hx hb dM_capacity_73 ?_
        refine lv_icmp_ge (tgt := 83) hx hb dM_capacity_74 (by decide) (fun hc2 => ?_) (fun hc2 => ?_)
        · replace hr := (if_pos hc2).symm.trans hr
          refine lv_iload_n hx hb dM_capacity_83 rfl (lv_at hl 2 rfl) ?_
          refine lv_iload_n hx hb dM_capacity_84 rfl (lv_at hl 3 rfl) ?_
          refine lv_isub hx hb dM_capacity_85 ?_
          obtain rfl := Option.some.inj hr
          exact W.iret (v := (x2 - x3)) hx hb hrt (fun t ht _ => ⟨rfl, ht⟩) (fun _ z => nomatch z) dM_capacity_86 hlocks
        · replace hr := (if_neg hc2).symm.trans hr
          refine lv_iload_n hx hb dM_capacity_77 rfl (lv_at hl 2 rfl) ?_
          refine lv_iconst (v := 2) hx hb dM_capacity_78 (by decide) ?_
          refine lv_idiv hx hb dM_capacity_79 (by decide) ?_
          refine lv_goto (tgt := 86) hx hb dM_capacity_80 (by decide) ?_
          obtain rfl := Option.some.inj hr
          exact W.iret (v := (x2 / 2)) hx hb hrt (fun t ht _ => ⟨rfl, ht⟩) (fun _ z => nomatch z) dM_capacity_86 hlocks
      · replace hr := (if_neg hc1).symm.trans hr
        refine lv_aload_n hx hb dM_capacity_14 rfl (lv_at hl 0 rfl) ?_
        refine lv_iload hx hb dM_capacity_15 (lv_at hl 4 rfl) ?_
        obtain ⟨q3, hq4, hr⟩ := Option.bind_eq_some_iff.mp hr
        refine tp_kP (rest := []) S hK hP hD rfl rfl (cM_stays l D h a cI cZ _ σ x4 q3 hq4) (cwV 1 hTB tp_gM_stays rfl rfl rfl ⟨rfl, by decide, by decide, by decide +kernel⟩ ⟨Nat.le_of_ble_eq_true rfl, Nat.le_of_ble_eq_true rfl⟩) rfl hl.1 rfl (Nat.le_of_ble_eq_true rfl) dM_capacity_17 ⟨Nat.zero_le _, Nat.zero_le _⟩ ?_
        refine lv_if_eq (tgt := 62) hx hb dM_capacity_20 (by decide) (fun hc5 => ?_) (fun hc5 => ?_)
        · replace hr := (if_pos hc5).symm.trans hr
          refine lv_iinc (k := 4) (v := (x4 + 1)) hx hb dM_capacity_62 hl rfl (tp_ii1 _) (by decide) rfl (fun ls hl => ?_)
          have hl : lv_has ls 5 [(4, .int (x4 + 1)), (0, .ref h), (1, .int x1), (2, .int x2), (3, .int x3)] := hl
          refine lv_goto (tgt := 7) hx hb dM_capacity_65 (by decide) ?_
          exact ih7 x2 x3 (x4 + 1) ls hr (lv_sub hl [1, 2, 3, 4, 0] rfl)
        · replace hr := (if_neg hc5).symm.trans hr
          refine lv_iload hx hb dM_capacity_23 (lv_at hl 4 rfl) ?_
          refine lv_iload_n hx hb dM_capacity_25 rfl (lv_at hl 1 rfl) ?_
          refine lv_icmp_eq (tgt := 62) hx hb dM_capacity_26 (by decide) (fun hc6 => ?_) (fun hc6 => ?_)
          · replace hr := (if_pos hc6).symm.trans hr
            refine lv_iinc (k := 4) (v := (x4 + 1)) hx hb dM_capacity_62 hl rfl (tp_ii1 _) (by decide) rfl (fun ls hl => ?_)
            have hl : lv_has ls 5 [(4, .int (x4 + 1)), (0, .ref h), (1, .int x1), (2, .int x2), (3, .int x3)] := hl
            refine lv_goto (tgt := 7) hx hb dM_capacity_65 (by decide) ?_
            exact ih7 x2 x3 (x4 + 1) ls hr (lv_sub hl [1, 2, 3, 4, 0] rfl)
          · replace hr := (if_neg hc6).symm.trans hr
            refine lv_iload_n hx hb dM_capacity_29 rfl (lv_at hl 2 rfl) ?_
            refine lv_aload_n hx hb dM_capacity_30 rfl (lv_at hl 0 rfl) ?_
            refine tp_gtM S hK hP 1 (by decide) (v := .ref (a 1)) tp_mM_f1 rfl dM_capacity_31 ?_
            refine lv_iload hx hb dM_capacity_34 (lv_at hl 4 rfl) ?_
            by_cases hb7 : tp_oob x4 12
            · exact nomatch ((if_pos hb7).symm.trans hr)
            replace hr := (if_neg hb7).symm.trans hr
            refine va_iald hx hb hK hP 1 0 rfl rfl hb7 dM_capacity_36 ?_
            refine lv_iadd hx hb dM_capacity_37 ?_
            refine lv_istore_n hx hb dM_capacity_38 rfl hl (by decide) rfl (fun ls hl => ?_)
            have hl : lv_has ls 5 [(2, .int (x2 + (σ 1 x4.toNatClampNeg))), (0, .ref h), (1, .int x1), (3, .int x3), (4, .int x4)] := hl
            refine lv_aload_n hx hb dM_capacity_39 rfl (lv_at hl 1 rfl) ?_
            refine tp_gtM S hK hP 1 (by decide) (v := .ref (a 1)) tp_mM_f1 rfl dM_capacity_40 ?_
            refine lv_iload hx hb dM_capacity_43 (lv_at hl 4 rfl) ?_
            refine va_iald hx hb hK hP 1 0 rfl rfl hb7 dM_capacity_45 ?_
            refine lv_iload_n hx hb dM_capacity_46 rfl (lv_at hl 3 rfl) ?_
            refine lv_icmp_le (tgt := 60) hx hb dM_capacity_47 (by decide) (fun hc8 => ?_) (fun hc8 => ?_)
            · replace hr := (if_pos hc8).symm.trans hr
              refine lv_iload_n hx hb dM_capacity_60 rfl (lv_at hl 3 rfl) ?_
              refine lv_istore_n hx hb dM_capacity_61 rfl hl (by decide) rfl (fun ls hl => ?_)
              have hl : lv_has ls 5 [(3, .int x3), (2, .int (x2 + (σ 1 x4.toNatClampNeg))), (0, .ref h), (1, .int x1), (4, .int x4)] := hl
              refine lv_iinc (k := 4) (v := (x4 + 1)) hx hb dM_capacity_62 hl rfl (tp_ii1 _) (by decide) rfl (fun ls hl => ?_)
              have hl : lv_has ls 5 [(4, .int (x4 + 1)), (3, .int x3), (2, .int (x2 + (σ 1 x4.toNatClampNeg))), (0, .ref h), (1, .int x1)] := hl
              refine lv_goto (tgt := 7) hx hb dM_capacity_65 (by decide) ?_
              exact ih7 (x2 + (σ 1 x4.toNatClampNeg)) x3 (x4 + 1) ls hr (lv_sub hl [3, 4, 2, 1, 0] rfl)
            · replace hr := (if_neg hc8).symm.trans hr
              refine lv_aload_n hx hb dM_capacity_50 rfl (lv_at hl 1 rfl) ?_
              refine tp_gtM S hK hP 1 (by decide) (v := .ref (a 1)) tp_mM_f1 rfl dM_capacity_51 ?_
              refine lv_iload hx hb dM_capacity_54 (lv_at hl 4 rfl) ?_
              refine va_iald hx hb hK hP 1 0 rfl rfl hb7 dM_capacity_56 ?_
              refine lv_goto (tgt := 61) hx hb dM_capacity_57 (by decide) ?_
              refine lv_istore_n hx hb dM_capacity_61 rfl hl (by decide) rfl (fun ls hl => ?_)
              have hl : lv_has ls 5 [(3, .int (σ 1 x4.toNatClampNeg)), (2, .int (x2 + (σ 1 x4.toNatClampNeg))), (0, .ref h), (1, .int x1), (4, .int x4)] := hl
              refine lv_iinc (k := 4) (v := (x4 + 1)) hx hb dM_capacity_62 hl rfl (tp_ii1 _) (by decide) rfl (fun ls hl => ?_)
              have hl : lv_has ls 5 [(4, .int (x4 + 1)), (3, .int (σ 1 x4.toNatClampNeg)), (2, .int (x2 + (σ 1 x4.toNatClampNeg))), (0, .ref h), (1, .int x1)] := hl
              refine lv_goto (tgt := 7) hx hb dM_capacity_65 (by decide) ?_
              exact ih7 (x2 + (σ 1 x4.toNatClampNeg)) (σ 1 x4.toNatClampNeg) (x4 + 1) ls hr (lv_sub hl [3, 4, 2, 1, 0] rfl)
  exact loop7 13 0 0 0 ls hr (lv_sub hl [3, 4, 2, 1, 0] rfl)
set_option maxHeartbeats 4000000 in
set_option maxRecDepth 100000 in
theorem cM_countWith (l : Launch) (D : va_G) (h : Nat) (a : Nat → Nat) (cI cZ : ClassId) (sz : Nat) (σ : tp_St) (x1 : Int32) (r : Int32) (hr : fM_countWith σ x1 = some r) : Met l tp_yM_countWith (tp_wsT tp_yM_countWith tp_bM_countWith 4 (some .int)) { frames := 2, cells := 0, slots := 0, locals := 45 } (tp_PcW D [(cI, .int), (cZ, .boolean)] (tp_wM h a cI cZ σ) sz [.ref h, .int x1]) (tp_qI r) 0 0 tp_noF := by
  refine Met.ofW (cc := tp_bM_countWith) (maxL := 4) (ret := (some .int)) (by decide) rfl ?_
  intro p e s m args below meth c s₁ B hml hv
  obtain ⟨rfl, hsz, hP, hK, hD0⟩ := hv
  have hx := B.exec
  have hb := B.bytes
  have hrt := B.returns
  have hTB : ∀ w ∈ tp_TB, w.before _ s = true := fun w z => atoms_spec (ws := (tp_wsT tp_yM_countWith tp_bM_countWith 4 (some .int))) B.pre w (List.mem_cons_of_mem _ z)
  have hown : s.vm.findClass tp_RM = some m.cls := findClass_of_methodNamed B.named
  have hlocks := B.notSynchronized
  have S : CallFix p m c tp_bM_countWith 4 s _ tp_TB tp_RM := ⟨hx, hb, hml, hown, hTB⟩
  subst hsz
  have hD : va_D (va_A (tp_wM h a cI cZ σ) s.heap.size) (tp_wM h a cI cZ σ) := hD0.self
  have hl := lv_entry ([.ref h, .int x1]) (n := 4) (Nat.le_of_ble_eq_true rfl)
  rw [lg_entry_eq]
  generalize (lg_sl ([.ref h, .int x1]) ++ List.replicate (4 - (lg_sl ([.ref h, .int x1])).length) Slot.unset).toArray = ls at hl ⊢
  have hl : lv_has ls 4 [(0, .ref h), (1, .int x1)] := hl
  rw [fM_countWith] at hr
  refine lv_iconst (v := 0) hx hb dM_countWith_0 (by decide) ?_
  refine lv_istore_n hx hb dM_countWith_1 rfl hl (by decide) rfl (fun ls hl => ?_)
  have hl : lv_has ls 4 [(2, .int 0), (0, .ref h), (1, .int x1)] := hl
  refine lv_iconst (v := 0) hx hb dM_countWith_2 (by decide) ?_
  refine lv_istore_n hx hb dM_countWith_3 rfl hl (by decide) rfl (fun ls hl => ?_)
  have hl : lv_has ls 4 [(3, .int 0), (2, .int 0), (0, .ref h), (1, .int x1)] := hl
  have loop4 : ∀ (n4 : Nat) (x2 : Int32) (x3 : Int32) (ls : Array Slot), fM_countWith_L4 σ x1 n4 x2 x3 = some r → lv_has ls 4 [(0, .ref h), (1, .int x1), (2, .int x2), (3, .int x3)] → W p l e { frames := 2, cells := 0, slots := 0, locals := 45 } s m (([.ref h, .int x1] : List Value).toArray) below meth c s.heap [] 0 0 (MQ below (tp_qI r) (([.ref h, .int x1] : List Value).toArray) s 0 0 tp_noF) (F0 m 4 ls []) := by
    intro n4
    induction n4 with
    | zero => intro x2 x3 ls hr hl; exact nomatch (show (none : Option Int32) = some r from hr)
    | succ n4 ih4 =>
      intro x2 x3 ls hr hl
      rw [fM_countWith_L4] at hr
      refine lv_iload_n hx hb dM_countWith_4 rfl (lv_at hl 3 rfl) ?_
      refine lv_sipush (v := 400) hx hb dM_countWith_5 (by decide) ?_
      refine lv_icmp_ge (tgt := 43) hx hb dM_countWith_8 (by decide) (fun hc1 => ?_) (fun hc1 => ?_)
      · replace hr := (if_pos hc1).symm.trans hr
        refine lv_iload_n hx hb dM_countWith_43 rfl (lv_at hl 2 rfl) ?_
        obtain rfl := Option.some.inj hr
        exact W.iret (v := x2) hx hb hrt (fun t ht _ => ⟨rfl, ht⟩) (fun _ z => nomatch z) dM_countWith_44 hlocks
      · replace hr := (if_neg hc1).symm.trans hr
        refine lv_aload_n hx hb dM_countWith_11 rfl (lv_at hl 0 rfl) ?_
        refine tp_gtM S hK hP 3 (by decide) (v := .ref (a 3)) tp_mM_f3 rfl dM_countWith_12 ?_
        refine lv_iload_n hx hb dM_countWith_15 rfl (lv_at hl 3 rfl) ?_
        by_cases hb2 : tp_oob x3 400
        · exact nomatch ((if_pos hb2).symm.trans hr)
        replace hr := (if_neg hb2).symm.trans hr
        refine va_zald hx hb hK hP 3 1 rfl rfl hb2 dM_countWith_16 ?_
        refine lv_if_eq (tgt := 35) hx hb dM_countWith_17 (by decide) (fun hc3 => ?_) (fun hc3 => ?_)
        · replace hr := (if_pos hc3).symm.trans hr
          refine lv_iload_n hx hb dM_countWith_35 rfl (lv_at hl 2 rfl) ?_
          refine lv_istore_n hx hb dM_countWith_36 rfl hl (by decide) rfl (fun ls hl => ?_)
          have hl : lv_has ls 4 [(2, .int x2), (0, .ref h), (1, .int x1), (3, .int x3)] := hl
          refine lv_iinc (k := 3) (v := (x3 + 1)) hx hb dM_countWith_37 hl rfl (tp_ii1 _) (by decide) rfl (fun ls hl => ?_)
          have hl : lv_has ls 4 [(3, .int (x3 + 1)), (2, .int x2), (0, .ref h), (1, .int x1)] := hl
          refine lv_goto (tgt := 4) hx hb dM_countWith_40 (by decide) ?_
          exact ih4 x2 (x3 + 1) ls hr (lv_sub hl [2, 3, 1, 0] rfl)
        · replace hr := (if_neg hc3).symm.trans hr
          refine lv_aload_n hx hb dM_countWith_20 rfl (lv_at hl 0 rfl) ?_
          refine lv_iload_n hx hb dM_countWith_21 rfl (lv_at hl 3 rfl) ?_
          obtain ⟨q4, hq5, hr⟩ := Option.bind_eq_some_iff.mp hr
          refine tp_kP (rest := []) S hK hP hD rfl rfl (cM_howMany l D h a cI cZ _ σ x3 q4 hq5) (cwV 1 hTB tp_gM_howMany rfl rfl rfl ⟨rfl, by decide, by decide, by decide +kernel⟩ ⟨Nat.le_of_ble_eq_true rfl, Nat.le_of_ble_eq_true rfl⟩) rfl hl.1 rfl (Nat.le_of_ble_eq_true rfl) dM_countWith_22 ⟨Nat.zero_le _, Nat.zero_le _⟩ ?_
          refine lv_iload_n hx hb dM_countWith_25 rfl (lv_at hl 1 rfl) ?_
          refine lv_icmp_ne (tgt := 35) hx hb dM_countWith_26 (by decide) (fun hc6 => ?_) (fun hc6 => ?_)
          · replace hr := (if_neg hc6).symm.trans hr
            refine lv_iload_n hx hb dM_countWith_35 rfl (lv_at hl 2 rfl) ?_
            refine lv_istore_n hx hb dM_countWith_36 rfl hl (by decide) rfl (fun ls hl => ?_)
            have hl : lv_has ls 4 [(2, .int x2), (0, .ref h), (1, .int x1), (3, .int x3)] := hl
            refine lv_iinc (k := 3) (v := (x3 + 1)) hx hb dM_countWith_37 hl rfl (tp_ii1 _) (by decide) rfl (fun ls hl => ?_)
            have hl : lv_has ls 4 [(3, .int (x3 + 1)), (2, .int x2), (0, .ref h), (1, .int x1)] := hl
            refine lv_goto (tgt := 4) hx hb dM_countWith_40 (by decide) ?_
            exact ih4 x2 (x3 + 1) ls hr (lv_sub hl [2, 3, 1, 0] rfl)
          · replace hr := (if_pos hc6).symm.trans hr
            refine lv_iload_n hx hb dM_countWith_29 rfl (lv_at hl 2 rfl) ?_
            refine lv_iconst (v := 1) hx hb dM_countWith_30 (by decide) ?_
            refine lv_iadd hx hb dM_countWith_31 ?_
            refine lv_goto (tgt := 36) hx hb dM_countWith_32 (by decide) ?_
            refine lv_istore_n hx hb dM_countWith_36 rfl hl (by decide) rfl (fun ls hl => ?_)
            have hl : lv_has ls 4 [(2, .int (x2 + 1)), (0, .ref h), (1, .int x1), (3, .int x3)] := hl
            refine lv_iinc (k := 3) (v := (x3 + 1)) hx hb dM_countWith_37 hl rfl (tp_ii1 _) (by decide) rfl (fun ls hl => ?_)
            have hl : lv_has ls 4 [(3, .int (x3 + 1)), (2, .int (x2 + 1)), (0, .ref h), (1, .int x1)] := hl
            refine lv_goto (tgt := 4) hx hb dM_countWith_40 (by decide) ?_
            exact ih4 (x2 + 1) (x3 + 1) ls hr (lv_sub hl [2, 3, 1, 0] rfl)
  exact loop4 401 0 0 ls hr (lv_sub hl [2, 3, 1, 0] rfl)
set_option maxHeartbeats 4000000 in
set_option maxRecDepth 100000 in
theorem cM_chunkCount (l : Launch) (D : va_G) (h : Nat) (a : Nat → Nat) (cI cZ : ClassId) (sz : Nat) (σ : tp_St) (r : Int32) (hr : fM_chunkCount σ = some r) : Met l tp_yM_chunkCount (tp_wsT tp_yM_chunkCount tp_bM_chunkCount 1 (some .int)) { frames := 3, cells := 0, slots := 0, locals := 68 } (tp_PcW D [(cI, .int), (cZ, .boolean)] (tp_wM h a cI cZ σ) sz [.ref h]) (tp_qI r) 0 0 tp_noF := by
  refine Met.ofW (cc := tp_bM_chunkCount) (maxL := 1) (ret := (some .int)) (by decide) rfl ?_
  intro p e s m args below meth c s₁ B hml hv
  obtain ⟨rfl, hsz, hP, hK, hD0⟩ := hv
  have hx := B.exec
  have hb := B.bytes
  have hrt := B.returns
  have hTB : ∀ w ∈ tp_TB, w.before _ s = true := fun w z => atoms_spec (ws := (tp_wsT tp_yM_chunkCount tp_bM_chunkCount 1 (some .int))) B.pre w (List.mem_cons_of_mem _ z)
  have hown : s.vm.findClass tp_RM = some m.cls := findClass_of_methodNamed B.named
  have hlocks := B.notSynchronized
  have S : CallFix p m c tp_bM_chunkCount 1 s _ tp_TB tp_RM := ⟨hx, hb, hml, hown, hTB⟩
  subst hsz
  have hD : va_D (va_A (tp_wM h a cI cZ σ) s.heap.size) (tp_wM h a cI cZ σ) := hD0.self
  have hl := lv_entry ([.ref h]) (n := 1) (Nat.le_of_ble_eq_true rfl)
  rw [lg_entry_eq]
  generalize (lg_sl ([.ref h]) ++ List.replicate (1 - (lg_sl ([.ref h])).length) Slot.unset).toArray = ls at hl ⊢
  have hl : lv_has ls 1 [(0, .ref h)] := hl
  rw [fM_chunkCount] at hr
  refine lv_aload_n hx hb dM_chunkCount_0 rfl (lv_at hl 0 rfl) ?_
  refine lv_iconst (v := 0) hx hb dM_chunkCount_1 (by decide) ?_
  obtain ⟨q1, hq2, hr⟩ := Option.bind_eq_some_iff.mp hr
  refine tp_kP (rest := []) S hK hP hD rfl rfl (cM_countWith l D h a cI cZ _ σ 0 q1 hq2) (cwV 1 hTB tp_gM_countWith rfl rfl rfl ⟨rfl, by decide, by decide, by decide +kernel⟩ ⟨Nat.le_of_ble_eq_true rfl, Nat.le_of_ble_eq_true rfl⟩) rfl hl.1 rfl (Nat.le_of_ble_eq_true rfl) dM_chunkCount_2 ⟨Nat.zero_le _, Nat.zero_le _⟩ ?_
  refine lv_aload_n hx hb dM_chunkCount_5 rfl (lv_at hl 0 rfl) ?_
  refine lv_iconst (v := 1) hx hb dM_chunkCount_6 (by decide) ?_
  obtain ⟨q3, hq4, hr⟩ := Option.bind_eq_some_iff.mp hr
  refine tp_kP (rest := [.int q1]) S hK hP hD rfl rfl (cM_countWith l D h a cI cZ _ σ 1 q3 hq4) (cwV 1 hTB tp_gM_countWith rfl rfl rfl ⟨rfl, by decide, by decide, by decide +kernel⟩ ⟨Nat.le_of_ble_eq_true rfl, Nat.le_of_ble_eq_true rfl⟩) rfl hl.1 rfl (Nat.le_of_ble_eq_true rfl) dM_chunkCount_7 ⟨Nat.zero_le _, Nat.zero_le _⟩ ?_
  refine lv_iadd hx hb dM_chunkCount_10 ?_
  refine lv_aload_n hx hb dM_chunkCount_11 rfl (lv_at hl 0 rfl) ?_
  refine lv_iconst (v := 2) hx hb dM_chunkCount_12 (by decide) ?_
  obtain ⟨q5, hq6, hr⟩ := Option.bind_eq_some_iff.mp hr
  refine tp_kP (rest := [.int (q1 + q3)]) S hK hP hD rfl rfl (cM_countWith l D h a cI cZ _ σ 2 q5 hq6) (cwV 1 hTB tp_gM_countWith rfl rfl rfl ⟨rfl, by decide, by decide, by decide +kernel⟩ ⟨Nat.le_of_ble_eq_true rfl, Nat.le_of_ble_eq_true rfl⟩) rfl hl.1 rfl (Nat.le_of_ble_eq_true rfl) dM_chunkCount_13 ⟨Nat.zero_le _, Nat.zero_le _⟩ ?_
  refine lv_iadd hx hb dM_chunkCount_16 ?_
  obtain rfl := Option.some.inj hr
  exact W.iret (v := ((q1 + q3) + q5)) hx hb hrt (fun t ht _ => ⟨rfl, ht⟩) (fun _ z => nomatch z) dM_chunkCount_17 hlocks
