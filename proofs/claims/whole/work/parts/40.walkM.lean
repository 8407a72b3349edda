set_option maxHeartbeats 4000000 in
set_option maxRecDepth 100000 in
theorem cM_thrown (l : Launch) (D : va_G) (h : Nat) (a : Nat → Nat) (cI cZ : ClassId) (sz : Nat) (σ : tp_St) (r : Int32) (hr : fM_thrown σ = some r) : Met l tp_yM_thrown (tp_wsT tp_yM_thrown tp_bM_thrown 1 (some .int)) { frames := 0, cells := 0, slots := 0, locals := 0 } (tp_PcW D [(cI, .int), (cZ, .boolean)] (tp_wM h a cI cZ σ) sz [.ref h]) (tp_qI r) 0 0 tp_noF := by
  refine Met.ofW (cc := tp_bM_thrown) (maxL := 1) (ret := (some .int)) (by decide) rfl ?_
  intro p e s m args below meth c s₁ B hml hv
  obtain ⟨rfl, hsz, hP, hK, hD0⟩ := hv
  have hx := B.exec
  have hb := B.bytes
  have hrt := B.returns
  have hTB : ∀ w ∈ tp_TB, w.before _ s = true := fun w z => atoms_spec (ws := (tp_wsT tp_yM_thrown tp_bM_thrown 1 (some .int))) B.pre w (List.mem_cons_of_mem _ z)
  have hown : s.vm.findClass tp_RM = some m.cls := findClass_of_methodNamed B.named
  have hlocks := B.notSynchronized
  have S : CallFix p m c tp_bM_thrown 1 s _ tp_TB tp_RM := ⟨hx, hb, hml, hown, hTB⟩
  subst hsz
  have hD : va_D (va_A (tp_wM h a cI cZ σ) s.heap.size) (tp_wM h a cI cZ σ) := hD0.self
  have hl := lv_entry ([.ref h]) (n := 1) (Nat.le_of_ble_eq_true rfl)
  rw [lg_entry_eq]
  generalize (lg_sl ([.ref h]) ++ List.replicate (1 - (lg_sl ([.ref h])).length) Slot.unset).toArray = ls at hl ⊢
  have hl : lv_has ls 1 [(0, .ref h)] := hl
  rw [fM_thrown] at hr
  refine lv_aload_n hx hb dM_thrown_0 rfl (lv_at hl 0 rfl) ?_
  refine tp_gtM S hK hP 0 (by decide) (v := .int (σ 0 0)) tp_mM_f0 rfl dM_thrown_1 ?_
  obtain rfl := Option.some.inj hr
  exact W.iret (v := (σ 0 0)) hx hb hrt (fun t ht _ => ⟨rfl, ht⟩) (fun _ z => nomatch z) dM_thrown_4 hlocks
set_option maxHeartbeats 4000000 in
set_option maxRecDepth 100000 in
theorem cM_isDisk (l : Launch) (D : va_G) (h : Nat) (a : Nat → Nat) (cI cZ : ClassId) (sz : Nat) (σ : tp_St) (x1 : Int32) (r : Int32) (hr : fM_isDisk σ x1 = some r) : Met l tp_yM_isDisk (tp_wsT tp_yM_isDisk tp_bM_isDisk 2 (some .boolean)) { frames := 0, cells := 0, slots := 0, locals := 0 } (tp_PcW D [(cI, .int), (cZ, .boolean)] (tp_wM h a cI cZ σ) sz [.ref h, .int x1]) (tp_qI r) 0 0 tp_noF := by
  refine Met.ofW (cc := tp_bM_isDisk) (maxL := 2) (ret := (some .boolean)) (by decide) rfl ?_
  intro p e s m args below meth c s₁ B hml hv
  obtain ⟨rfl, hsz, hP, hK, hD0⟩ := hv
  have hx := B.exec
  have hb := B.bytes
  have hrt := B.returns
  have hTB : ∀ w ∈ tp_TB, w.before _ s = true := fun w z => atoms_spec (ws := (tp_wsT tp_yM_isDisk tp_bM_isDisk 2 (some .boolean))) B.pre w (List.mem_cons_of_mem _ z)
  have hown : s.vm.findClass tp_RM = some m.cls := findClass_of_methodNamed B.named
  have hlocks := B.notSynchronized
  have S : CallFix p m c tp_bM_isDisk 2 s _ tp_TB tp_RM := ⟨hx, hb, hml, hown, hTB⟩
  subst hsz
  have hD : va_D (va_A (tp_wM h a cI cZ σ) s.heap.size) (tp_wM h a cI cZ σ) := hD0.self
  have hl := lv_entry ([.ref h, .int x1]) (n := 2) (Nat.le_of_ble_eq_true rfl)
  rw [lg_entry_eq]
  generalize (lg_sl ([.ref h, .int x1]) ++ List.replicate (2 - (lg_sl ([.ref h, .int x1])).length) Slot.unset).toArray = ls at hl ⊢
  have hl : lv_has ls 2 [(0, .ref h), (1, .int x1)] := hl
  rw [fM_isDisk] at hr
  refine lv_iload_n hx hb dM_isDisk_0 rfl (lv_at hl 1 rfl) ?_
  refine lv_if_lt (tgt := 23) hx hb dM_isDisk_1 (by decide) (fun hc1 => ?_) (fun hc1 => ?_)
  · replace hr := (if_pos hc1).symm.trans hr
    refine lv_iconst (v := 0) hx hb dM_isDisk_23 (by decide) ?_
    obtain rfl := Option.some.inj hr
    exact W.zret (v := 0) hx hb hrt (by decide) (fun t ht _ => ⟨rfl, ht⟩) (fun _ z => nomatch z) dM_isDisk_24 hlocks
  · replace hr := (if_neg hc1).symm.trans hr
    refine lv_iload_n hx hb dM_isDisk_4 rfl (lv_at hl 1 rfl) ?_
    refine lv_bipush (v := 12) hx hb dM_isDisk_5 (by decide) ?_
    refine lv_icmp_ge (tgt := 23) hx hb dM_isDisk_7 (by decide) (fun hc2 => ?_) (fun hc2 => ?_)
    · replace hr := (if_pos hc2).symm.trans hr
      refine lv_iconst (v := 0) hx hb dM_isDisk_23 (by decide) ?_
      obtain rfl := Option.some.inj hr
      exact W.zret (v := 0) hx hb hrt (by decide) (fun t ht _ => ⟨rfl, ht⟩) (fun _ z => nomatch z) dM_isDisk_24 hlocks
    · replace hr := (if_neg hc2).symm.trans hr
      refine lv_aload_n hx hb dM_isDisk_10 rfl (lv_at hl 0 rfl) ?_
      refine tp_gtM S hK hP 1 (by decide) (v := .ref (a 1)) tp_mM_f1 rfl dM_isDisk_11 ?_
      refine lv_iload_n hx hb dM_isDisk_14 rfl (lv_at hl 1 rfl) ?_
      by_cases hb3 : tp_oob x1 12
      · exact nomatch ((if_pos hb3).symm.trans hr)
      replace hr := (if_neg hb3).symm.trans hr
      refine va_iald hx hb hK hP 1 0 rfl rfl hb3 dM_isDisk_15 ?_
      refine lv_if_le (tgt := 23) hx hb dM_isDisk_16 (by decide) (fun hc4 => ?_) (fun hc4 => ?_)
      · replace hr := (if_pos hc4).symm.trans hr
        refine lv_iconst (v := 0) hx hb dM_isDisk_23 (by decide) ?_
        obtain rfl := Option.some.inj hr
        exact W.zret (v := 0) hx hb hrt (by decide) (fun t ht _ => ⟨rfl, ht⟩) (fun _ z => nomatch z) dM_isDisk_24 hlocks
      · replace hr := (if_neg hc4).symm.trans hr
        refine lv_iconst (v := 1) hx hb dM_isDisk_19 (by decide) ?_
        refine lv_goto (tgt := 24) hx hb dM_isDisk_20 (by decide) ?_
        obtain rfl := Option.some.inj hr
        exact W.zret (v := 1) hx hb hrt (by decide) (fun t ht _ => ⟨rfl, ht⟩) (fun _ z => nomatch z) dM_isDisk_24 hlocks
set_option maxHeartbeats 4000000 in
set_option maxRecDepth 100000 in
theorem cM_isChunk (l : Launch) (D : va_G) (h : Nat) (a : Nat → Nat) (cI cZ : ClassId) (sz : Nat) (σ : tp_St) (x1 : Int32) (r : Int32) (hr : fM_isChunk σ x1 = some r) : Met l tp_yM_isChunk (tp_wsT tp_yM_isChunk tp_bM_isChunk 2 (some .boolean)) { frames := 0, cells := 0, slots := 0, locals := 0 } (tp_PcW D [(cI, .int), (cZ, .boolean)] (tp_wM h a cI cZ σ) sz [.ref h, .int x1]) (tp_qI r) 0 0 tp_noF := by
  refine Met.ofW (cc := tp_bM_isChunk) (maxL := 2) (ret := (some .boolean)) (by decide) rfl ?_
  intro p e s m args below meth c s₁ B hml hv
  obtain ⟨rfl, hsz, hP, hK, hD0⟩ := hv
  have hx := B.exec
  have hb := B.bytes
  have hrt := B.returns
  have hTB : ∀ w ∈ tp_TB, w.before _ s = true := fun w z => atoms_spec (ws := (tp_wsT tp_yM_isChunk tp_bM_isChunk 2 (some .boolean))) B.pre w (List.mem_cons_of_mem _ z)
  have hown : s.vm.findClass tp_RM = some m.cls := findClass_of_methodNamed B.named
  have hlocks := B.notSynchronized
  have S : CallFix p m c tp_bM_isChunk 2 s _ tp_TB tp_RM := ⟨hx, hb, hml, hown, hTB⟩
  subst hsz
  have hD : va_D (va_A (tp_wM h a cI cZ σ) s.heap.size) (tp_wM h a cI cZ σ) := hD0.self
  have hl := lv_entry ([.ref h, .int x1]) (n := 2) (Nat.le_of_ble_eq_true rfl)
  rw [lg_entry_eq]
  generalize (lg_sl ([.ref h, .int x1]) ++ List.replicate (2 - (lg_sl ([.ref h, .int x1])).length) Slot.unset).toArray = ls at hl ⊢
  have hl : lv_has ls 2 [(0, .ref h), (1, .int x1)] := hl
  rw [fM_isChunk] at hr
  refine lv_iload_n hx hb dM_isChunk_0 rfl (lv_at hl 1 rfl) ?_
  refine lv_if_lt (tgt := 24) hx hb dM_isChunk_1 (by decide) (fun hc1 => ?_) (fun hc1 => ?_)
  · replace hr := (if_pos hc1).symm.trans hr
    refine lv_iconst (v := 0) hx hb dM_isChunk_24 (by decide) ?_
    obtain rfl := Option.some.inj hr
    exact W.zret (v := 0) hx hb hrt (by decide) (fun t ht _ => ⟨rfl, ht⟩) (fun _ z => nomatch z) dM_isChunk_25 hlocks
  · replace hr := (if_neg hc1).symm.trans hr
    refine lv_iload_n hx hb dM_isChunk_4 rfl (lv_at hl 1 rfl) ?_
    refine lv_sipush (v := 400) hx hb dM_isChunk_5 (by decide) ?_
    refine lv_icmp_ge (tgt := 24) hx hb dM_isChunk_8 (by decide) (fun hc2 => ?_) (fun hc2 => ?_)
    · replace hr := (if_pos hc2).symm.trans hr
      refine lv_iconst (v := 0) hx hb dM_isChunk_24 (by decide) ?_
      obtain rfl := Option.some.inj hr
      exact W.zret (v := 0) hx hb hrt (by decide) (fun t ht _ => ⟨rfl, ht⟩) (fun _ z => nomatch z) dM_isChunk_25 hlocks
    · replace hr := (if_neg hc2).symm.trans hr
      refine lv_aload_n hx hb dM_isChunk_11 rfl (lv_at hl 0 rfl) ?_
      refine tp_gtM S hK hP 3 (by decide) (v := .ref (a 3)) tp_mM_f3 rfl dM_isChunk_12 ?_
      refine lv_iload_n hx hb dM_isChunk_15 rfl (lv_at hl 1 rfl) ?_
      by_cases hb3 : tp_oob x1 400
      · exact nomatch ((if_pos hb3).symm.trans hr)
      replace hr := (if_neg hb3).symm.trans hr
      refine va_zald hx hb hK hP 3 1 rfl rfl hb3 dM_isChunk_16 ?_
      refine lv_if_eq (tgt := 24) hx hb dM_isChunk_17 (by decide) (fun hc4 => ?_) (fun hc4 => ?_)
      · replace hr := (if_pos hc4).symm.trans hr
        refine lv_iconst (v := 0) hx hb dM_isChunk_24 (by decide) ?_
        obtain rfl := Option.some.inj hr
        exact W.zret (v := 0) hx hb hrt (by decide) (fun t ht _ => ⟨rfl, ht⟩) (fun _ z => nomatch z) dM_isChunk_25 hlocks
      · replace hr := (if_neg hc4).symm.trans hr
        refine lv_iconst (v := 1) hx hb dM_isChunk_20 (by decide) ?_
        refine lv_goto (tgt := 25) hx hb dM_isChunk_21 (by decide) ?_
        obtain rfl := Option.some.inj hr
        exact W.zret (v := 1) hx hb hrt (by decide) (fun t ht _ => ⟨rfl, ht⟩) (fun _ z => nomatch z) dM_isChunk_25 hlocks
set_option maxHeartbeats 4000000 in
set_option maxRecDepth 100000 in
theorem cM_stays (l : Launch) (D : va_G) (h : Nat) (a : Nat → Nat) (cI cZ : ClassId) (sz : Nat) (σ : tp_St) (x1 : Int32) (r : Int32) (hr : fM_stays σ x1 = some r) : Met l tp_yM_stays (tp_wsT tp_yM_stays tp_bM_stays 2 (some .boolean)) { frames := 0, cells := 0, slots := 0, locals := 0 } (tp_PcW D [(cI, .int), (cZ, .boolean)] (tp_wM h a cI cZ σ) sz [.ref h, .int x1]) (tp_qI r) 0 0 tp_noF := by
  refine Met.ofW (cc := tp_bM_stays) (maxL := 2) (ret := (some .boolean)) (by decide) rfl ?_
  intro p e s m args below meth c s₁ B hml hv
  obtain ⟨rfl, hsz, hP, hK, hD0⟩ := hv
  have hx := B.exec
  have hb := B.bytes
  have hrt := B.returns
  have hTB : ∀ w ∈ tp_TB, w.before _ s = true := fun w z => atoms_spec (ws := (tp_wsT tp_yM_stays tp_bM_stays 2 (some .boolean))) B.pre w (List.mem_cons_of_mem _ z)
  have hown : s.vm.findClass tp_RM = some m.cls := findClass_of_methodNamed B.named
  have hlocks := B.notSynchronized
  have S : CallFix p m c tp_bM_stays 2 s _ tp_TB tp_RM := ⟨hx, hb, hml, hown, hTB⟩
  subst hsz
  have hD : va_D (va_A (tp_wM h a cI cZ σ) s.heap.size) (tp_wM h a cI cZ σ) := hD0.self
  have hl := lv_entry ([.ref h, .int x1]) (n := 2) (Nat.le_of_ble_eq_true rfl)
  rw [lg_entry_eq]
  generalize (lg_sl ([.ref h, .int x1]) ++ List.replicate (2 - (lg_sl ([.ref h, .int x1])).length) Slot.unset).toArray = ls at hl ⊢
  have hl : lv_has ls 2 [(0, .ref h), (1, .int x1)] := hl
  rw [fM_stays] at hr
  refine lv_aload_n hx hb dM_stays_0 rfl (lv_at hl 0 rfl) ?_
  refine tp_gtM S hK hP 1 (by decide) (v := .ref (a 1)) tp_mM_f1 rfl dM_stays_1 ?_
  refine lv_iload_n hx hb dM_stays_4 rfl (lv_at hl 1 rfl) ?_
  by_cases hb1 : tp_oob x1 12
  · exact nomatch ((if_pos hb1).symm.trans hr)
  replace hr := (if_neg hb1).symm.trans hr
  refine va_iald hx hb hK hP 1 0 rfl rfl hb1 dM_stays_5 ?_
  refine lv_if_le (tgt := 22) hx hb dM_stays_6 (by decide) (fun hc2 => ?_) (fun hc2 => ?_)
  · replace hr := (if_pos hc2).symm.trans hr
    refine lv_iconst (v := 0) hx hb dM_stays_22 (by decide) ?_
    obtain rfl := Option.some.inj hr
    exact W.zret (v := 0) hx hb hrt (by decide) (fun t ht _ => ⟨rfl, ht⟩) (fun _ z => nomatch z) dM_stays_23 hlocks
  · replace hr := (if_neg hc2).symm.trans hr
    refine lv_aload_n hx hb dM_stays_9 rfl (lv_at hl 0 rfl) ?_
    refine tp_gtM S hK hP 2 (by decide) (v := .ref (a 2)) tp_mM_f2 rfl dM_stays_10 ?_
    refine lv_iload_n hx hb dM_stays_13 rfl (lv_at hl 1 rfl) ?_
    refine va_zald hx hb hK hP 2 1 rfl rfl hb1 dM_stays_14 ?_
    refine lv_if_ne (tgt := 22) hx hb dM_stays_15 (by decide) (fun hc3 => ?_) (fun hc3 => ?_)
    · replace hr := (if_neg hc3).symm.trans hr
      refine lv_iconst (v := 0) hx hb dM_stays_22 (by decide) ?_
      obtain rfl := Option.some.inj hr
      exact W.zret (v := 0) hx hb hrt (by decide) (fun t ht _ => ⟨rfl, ht⟩) (fun _ z => nomatch z) dM_stays_23 hlocks
    · replace hr := (if_pos hc3).symm.trans hr
      refine lv_iconst (v := 1) hx hb dM_stays_18 (by decide) ?_
      refine lv_goto (tgt := 23) hx hb dM_stays_19 (by decide) ?_
      obtain rfl := Option.some.inj hr
      exact W.zret (v := 1) hx hb hrt (by decide) (fun t ht _ => ⟨rfl, ht⟩) (fun _ z => nomatch z) dM_stays_23 hlocks
set_option maxHeartbeats 4000000 in
set_option maxRecDepth 100000 in
theorem cM_isOn (l : Launch) (D : va_G) (h : Nat) (a : Nat → Nat) (cI cZ : ClassId) (sz : Nat) (σ : tp_St) (x1 : Int32) (x2 : Int32) (r : Int32) (hr : fM_isOn σ x1 x2 = some r) : Met l tp_yM_isOn (tp_wsT tp_yM_isOn tp_bM_isOn 3 (some .boolean)) { frames := 0, cells := 0, slots := 0, locals := 0 } (tp_PcW D [(cI, .int), (cZ, .boolean)] (tp_wM h a cI cZ σ) sz [.ref h, .int x1, .int x2]) (tp_qI r) 0 0 tp_noF := by
  refine Met.ofW (cc := tp_bM_isOn) (maxL := 3) (ret := (some .boolean)) (by decide) rfl ?_
  intro p e s m args below meth c s₁ B hml hv
  obtain ⟨rfl, hsz, hP, hK, hD0⟩ := hv
  have hx := B.exec
  have hb := B.bytes
  have hrt := B.returns
  have hTB : ∀ w ∈ tp_TB, w.before _ s = true := fun w z => atoms_spec (ws := (tp_wsT tp_yM_isOn tp_bM_isOn 3 (some .boolean))) B.pre w (List.mem_cons_of_mem _ z)
  have hown : s.vm.findClass tp_RM = some m.cls := findClass_of_methodNamed B.named
  have hlocks := B.notSynchronized
  have S : CallFix p m c tp_bM_isOn 3 s _ tp_TB tp_RM := ⟨hx, hb, hml, hown, hTB⟩
  subst hsz
  have hD : va_D (va_A (tp_wM h a cI cZ σ) s.heap.size) (tp_wM h a cI cZ σ) := hD0.self
  have hl := lv_entry ([.ref h, .int x1, .int x2]) (n := 3) (Nat.le_of_ble_eq_true rfl)
  rw [lg_entry_eq]
  generalize (lg_sl ([.ref h, .int x1, .int x2]) ++ List.replicate (3 - (lg_sl ([.ref h, .int x1, .int x2])).length) Slot.unset).toArray = ls at hl ⊢
  have hl : lv_has ls 3 [(0, .ref h), (1, .int x1), (2, .int x2)] := hl
  rw [fM_isOn] at hr
  refine lv_aload_n hx hb dM_isOn_0 rfl (lv_at hl 0 rfl) ?_
  refine tp_gtM S hK hP 3 (by decide) (v := .ref (a 3)) tp_mM_f3 rfl dM_isOn_1 ?_
  refine lv_iload_n hx hb dM_isOn_4 rfl (lv_at hl 1 rfl) ?_
  by_cases hb1 : tp_oob x1 400
  · exact nomatch ((if_pos hb1).symm.trans hr)
  replace hr := (if_neg hb1).symm.trans hr
  refine va_zald hx hb hK hP 3 1 rfl rfl hb1 dM_isOn_5 ?_
  refine lv_if_eq (tgt := 27) hx hb dM_isOn_6 (by decide) (fun hc2 => ?_) (fun hc2 => ?_)
  · replace hr := (if_pos hc2).symm.trans hr
    refine lv_iconst (v := 0) hx hb dM_isOn_27 (by decide) ?_
    obtain rfl := Option.some.inj hr
    exact W.zret (v := 0) hx hb hrt (by decide) (fun t ht _ => ⟨rfl, ht⟩) (fun _ z => nomatch z) dM_isOn_28 hlocks
  · replace hr := (if_neg hc2).symm.trans hr
    refine lv_aload_n hx hb dM_isOn_9 rfl (lv_at hl 0 rfl) ?_
    refine tp_gtM S hK hP 4 (by decide) (v := .ref (a 4)) tp_mM_f4 rfl dM_isOn_10 ?_
    refine lv_iload_n hx hb dM_isOn_13 rfl (lv_at hl 1 rfl) ?_
    refine va_iald hx hb hK hP 4 0 rfl rfl hb1 dM_isOn_14 ?_
    refine lv_iload_n hx hb dM_isOn_15 rfl (lv_at hl 2 rfl) ?_
    refine lv_ishr hx hb dM_isOn_16 ?_
    refine lv_iconst (v := 2) hx hb dM_isOn_17 (by decide) ?_
    refine lv_irem hx hb dM_isOn_18 (by decide) ?_
    refine lv_iconst (v := 1) hx hb dM_isOn_19 (by decide) ?_
    refine lv_icmp_ne (tgt := 27) hx hb dM_isOn_20 (by decide) (fun hc3 => ?_) (fun hc3 => ?_)
    · replace hr := (if_neg hc3).symm.trans hr
      refine lv_iconst (v := 0) hx hb dM_isOn_27 (by decide) ?_
      obtain rfl := Option.some.inj hr
      exact W.zret (v := 0) hx hb hrt (by decide) (fun t ht _ => ⟨rfl, ht⟩) (fun _ z => nomatch z) dM_isOn_28 hlocks
    · replace hr := (if_pos hc3).symm.trans hr
      refine lv_iconst (v := 1) hx hb dM_isOn_23 (by decide) ?_
      refine lv_goto (tgt := 28) hx hb dM_isOn_24 (by decide) ?_
      obtain rfl := Option.some.inj hr
      exact W.zret (v := 1) hx hb hrt (by decide) (fun t ht _ => ⟨rfl, ht⟩) (fun _ z => nomatch z) dM_isOn_28 hlocks
set_option maxHeartbeats 4000000 in
set_option maxRecDepth 100000 in
theorem cM_used (l : Launch) (D : va_G) (h : Nat) (a : Nat → Nat) (cI cZ : ClassId) (sz : Nat) (σ : tp_St) (x1 : Int32) (r : Int32) (hr : fM_used σ x1 = some r) : Met l tp_yM_used (tp_wsT tp_yM_used tp_bM_used 4 (some .int)) { frames := 1, cells := 0, slots := 0, locals := 22 } (tp_PcW D [(cI, .int), (cZ, .boolean)] (tp_wM h a cI cZ σ) sz [.ref h, .int x1]) (tp_qI r) 0 0 tp_noF := by
  refine Met.ofW (cc := tp_bM_used) (maxL := 4) (ret := (some .int)) (by decide) rfl ?_
  intro p e s m args below meth c s₁ B hml hv
  obtain ⟨rfl, hsz, hP, hK, hD0⟩ := hv
  have hx := B.exec
  have hb := B.bytes
  have hrt := B.returns
  have hTB : ∀ w ∈ tp_TB, w.before _ s = true := fun w z => atoms_spec (ws := (tp_wsT tp_yM_used tp_bM_used 4 (some .int))) B.pre w (List.mem_cons_of_mem _ z)
  have hown : s.vm.findClass tp_RM = some m.cls := findClass_of_methodNamed B.named
  have hlocks := B.notSynchronized
  have S : CallFix p m c tp_bM_used 4 s _ tp_TB tp_RM := ⟨hx, hb, hml, hown, hTB⟩
  subst hsz
  have hD : va_D (va_A (tp_wM h a cI cZ σ) s.heap.size) (tp_wM h a cI cZ σ) := hD0.self
  have hl := lv_entry ([.ref h, .int x1]) (n := 4) (Nat.le_of_ble_eq_true rfl)
  rw [lg_entry_eq]
  generalize (lg_sl ([.ref h, .int x1]) ++ List.replicate (4 - (lg_sl ([.ref h, .int x1])).length) Slot.unset).toArray = ls at hl ⊢
  have hl : lv_has ls 4 [(0, .ref h), (1, .int x1)] := hl
  rw [fM_used] at hr
  refine lv_iconst (v := 0) hx hb dM_used_0 (by decide) ?_
  refine lv_istore_n hx hb dM_used_1 rfl hl (by decide) rfl (fun ls hl => ?_)
  have hl : lv_has ls 4 [(2, .int 0), (0, .ref h), (1, .int x1)] := hl
  refine lv_iconst (v := 0) hx hb dM_used_2 (by decide) ?_
  refine lv_istore_n hx hb dM_used_3 rfl hl (by decide) rfl (fun ls hl => ?_)
  have hl : lv_has ls 4 [(3, .int 0), (2, .int 0), (0, .ref h), (1, .int x1)] := hl
  have loop4 : ∀ (n4 : Nat) (x2 : Int32) (x3 : Int32) (ls : Array Slot), fM_used_L4 σ x1 n4 x2 x3 = some r → lv_has ls 4 [(0, .ref h), (1, .int x1), (2, .int x2), (3, .int x3)] → W p l e { frames := 1, cells := 0, slots := 0, locals := 22 } s m (([.ref h, .int x1] : List Value).toArray) below meth c s.heap [] 0 0 (MQ below (tp_qI r) (([.ref h, .int x1] : List Value).toArray) s 0 0 tp_noF) (F0 m 4 ls []) := by
    intro n4
    induction n4 with
    | zero => intro x2 x3 ls hr hl; exact nomatch (show (none : Option Int32) = some r from hr)
    | succ n4 ih4 =>
      intro x2 x3 ls hr hl
      rw [fM_used_L4] at hr
      refine lv_iload_n hx hb dM_used_4 rfl (lv_at hl 3 rfl) ?_
      refine lv_sipush (v := 400) hx hb dM_used_5 (by decide) ?_
      refine lv_icmp_ge (tgt := 34) hx hb dM_used_8 (by decide) (fun hc1 => ?_) (fun hc1 => ?_)
      · replace hr := (if_pos hc1).symm.trans hr
        refine lv_iload_n hx hb dM_used_34 rfl (lv_at hl 2 rfl) ?_
        obtain rfl := Option.some.inj hr
        exact W.iret (v := x2) hx hb hrt (fun t ht _ => ⟨rfl, ht⟩) (fun _ z => nomatch z) dM_used_35 hlocks
      · replace hr := (if_neg hc1).symm.trans hr
        refine lv_aload_n hx hb dM_used_11 rfl (lv_at hl 0 rfl) ?_
        refine lv_iload_n hx hb dM_used_12 rfl (lv_at hl 3 rfl) ?_
        refine lv_iload_n hx hb dM_used_13 rfl (lv_at hl 1 rfl) ?_
        obtain ⟨q2, hq3, hr⟩ := Option.bind_eq_some_iff.mp hr
        refine tp_kP (rest := []) S hK hP hD rfl rfl (cM_isOn l D h a cI cZ _ σ x3 x1 q2 hq3) (cwV 2 hTB tp_gM_isOn rfl rfl rfl ⟨rfl, by decide, by decide, by decide +kernel⟩ ⟨Nat.le_of_ble_eq_true rfl, Nat.le_of_ble_eq_true rfl⟩) rfl hl.1 rfl (Nat.le_of_ble_eq_true rfl) dM_used_14 ⟨Nat.zero_le _, Nat.zero_le _⟩ ?_
        refine lv_if_eq (tgt := 26) hx hb dM_used_17 (by decide) (fun hc4 => ?_) (fun hc4 => ?_)
        · replace hr := (if_pos hc4).symm.trans hr
          refine lv_iload_n hx hb dM_used_26 rfl (lv_at hl 2 rfl) ?_
          refine lv_istore_n hx hb dM_used_27 rfl hl (by decide) rfl (fun ls hl => ?_)
          have hl : lv_has ls 4 [(2, .int x2), (0, .ref h), (1, .int x1), (3, .int x3)] := hl
          refine lv_iinc (k := 3) (v := (x3 + 1)) hx hb dM_used_28 hl rfl (tp_ii1 _) (by decide) rfl (fun ls hl => ?_)
          have hl : lv_has ls 4 [(3, .int (x3 + 1)), (2, .int x2), (0, .ref h), (1, .int x1)] := hl
          refine lv_goto (tgt := 4) hx hb dM_used_31 (by decide) ?_
          exact ih4 x2 (x3 + 1) ls hr (lv_sub hl [2, 3, 1, 0] rfl)
        · replace hr := (if_neg hc4).symm.trans hr
          refine lv_iload_n hx hb dM_used_20 rfl (lv_at hl 2 rfl) ?_
          refine lv_iconst (v := 1) hx hb dM_used_21 (by decide) ?_
          refine lv_iadd hx hb dM_used_22 ?_
          refine lv_goto (tgt := 27) hx hb dM_used_23 (by decide) ?_
          refine lv_istore_n hx hb dM_used_27 rfl hl (by decide) rfl (fun ls hl => ?_)
          have hl : lv_has ls 4 [(2, .int (x2 + 1)), (0, .ref h), (1, .int x1), (3, .int x3)] := hl
          refine lv_iinc (k := 3) (v := (x3 + 1)) hx hb dM_used_28 hl rfl (tp_ii1 _) (by decide) rfl (fun ls hl => ?_)
          have hl : lv_has ls 4 [(3, .int (x3 + 1)), (2, .int (x2 + 1)), (0, .ref h), (1, .int x1)] := hl
          refine lv_goto (tgt := 4) hx hb dM_used_31 (by decide) ?_
          exact ih4 (x2 + 1) (x3 + 1) ls hr (lv_sub hl [2, 3, 1, 0] rfl)
  exact loop4 401 0 0 ls hr (lv_sub hl [2, 3, 1, 0] rfl)
set_option maxHeartbeats 4000000 in
set_option maxRecDepth 100000 in
theorem cM_freeOn (l : Launch) (D : va_G) (h : Nat) (a : Nat → Nat) (cI cZ : ClassId) (sz : Nat) (σ : tp_St) (x1 : Int32) (r : Int32) (hr : fM_freeOn σ x1 = some r) : Met l tp_yM_freeOn (tp_wsT tp_yM_freeOn tp_bM_freeOn 2 (some .int)) { frames := 2, cells := 0, slots := 0, locals := 45 } (tp_PcW D [(cI, .int), (cZ, .boolean)] (tp_wM h a cI cZ σ) sz [.ref h, .int x1]) (tp_qI r) 0 0 tp_noF := by
  refine Met.ofW (cc := tp_bM_freeOn) (maxL := 2) (ret := (some .int)) (by decide) rfl ?_
  intro p e s m args below meth c s₁ B hml hv
  obtain ⟨rfl, hsz, hP, hK, hD0⟩ := hv
  have hx := B.exec
  have hb := B.bytes
  have hrt := B.returns
  have hTB : ∀ w ∈ tp_TB, w.before _ s = true := fun w z => atoms_spec (ws := (tp_wsT tp_yM_freeOn tp_bM_freeOn 2 (some .int))) B.pre w (List.mem_cons_of_mem _ z)
  have hown : s.vm.findClass tp_RM = some m.cls := findClass_of_methodNamed B.named
  have hlocks := B.notSynchronized
  have S : CallFix p m c tp_bM_freeOn 2 s _ tp_TB tp_RM := ⟨hx, hb, hml, hown, hTB⟩
  subst hsz
  have hD : va_D (va_A (tp_wM h a cI cZ σ) s.heap.size) (tp_wM h a cI cZ σ) := hD0.self
  have hl := lv_entry ([.ref h, .int x1]) (n := 2) (Nat.le_of_ble_eq_true rfl)
  rw [lg_entry_eq]
  generalize (lg_sl ([.ref h, .int x1]) ++ List.replicate (2 - (lg_sl ([.ref h, .int x1])).length) Slot.unset).toArray = ls at hl ⊢
  have hl : lv_has ls 2 [(0, .ref h), (1, .int x1)] := hl
  rw [fM_freeOn] at hr
  refine lv_aload_n hx hb dM_freeOn_0 rfl (lv_at hl 0 rfl) ?_
  refine tp_gtM S hK hP 1 (by decide) (v := .ref (a 1)) tp_mM_f1 rfl dM_freeOn_1 ?_
  refine lv_iload_n hx hb dM_freeOn_4 rfl (lv_at hl 1 rfl) ?_
  by_cases hb1 : tp_oob x1 12
  · exact nomatch ((if_pos hb1).symm.trans hr)
  replace hr := (if_neg hb1).symm.trans hr
  refine va_iald hx hb hK hP 1 0 rfl rfl hb1 dM_freeOn_5 ?_
  refine lv_aload_n hx hb dM_freeOn_6 rfl (lv_at hl 0 rfl) ?_
  refine lv_iload_n hx hb dM_freeOn_7 rfl (lv_at hl 1 rfl) ?_
  obtain ⟨q2, hq3, hr⟩ := Option.bind_eq_some_iff.mp hr
  refine tp_kP (rest := [.int (σ 1 x1.toNatClampNeg)]) S hK hP hD rfl rfl (cM_used l D h a cI cZ _ σ x1 q2 hq3) (cwV 1 hTB tp_gM_used rfl rfl rfl ⟨rfl, by decide, by decide, by decide +kernel⟩ ⟨Nat.le_of_ble_eq_true rfl, Nat.le_of_ble_eq_true rfl⟩) rfl hl.1 rfl (Nat.le_of_ble_eq_true rfl) dM_freeOn_8 ⟨Nat.zero_le _, Nat.zero_le _⟩ ?_
  refine lv_isub hx hb dM_freeOn_11 ?_
  obtain rfl := Option.some.inj hr
  exact W.iret (v := ((σ 1 x1.toNatClampNeg) - q2)) hx hb hrt (fun t ht _ => ⟨rfl, ht⟩) (fun _ z => nomatch z) dM_freeOn_12 hlocks
set_option maxHeartbeats 4000000 in
set_option maxRecDepth 100000 in
theorem cM_howMany (l : Launch) (D : va_G) (h : Nat) (a : Nat → Nat) (cI cZ : ClassId) (sz : Nat) (σ : tp_St) (x1 : Int32) (r : Int32) (hr : fM_howMany σ x1 = some r) : Met l tp_yM_howMany (tp_wsT tp_yM_howMany tp_bM_howMany 4 (some .int)) { frames := 1, cells := 0, slots := 0, locals := 22 } (tp_PcW D [(cI, .int), (cZ, .boolean)] (tp_wM h a cI cZ σ) sz [.ref h, .int x1]) (tp_qI r) 0 0 tp_noF := by
  refine Met.ofW (cc := tp_bM_howMany) (maxL := 4) (ret := (some .int)) (by decide) rfl ?_
  intro p e s m args below meth c s₁ B hml hv
  obtain ⟨rfl, hsz, hP, hK, hD0⟩ := hv
  have hx := B.exec
  have hb := B.bytes
  have hrt := B.returns
  have hTB : ∀ w ∈ tp_TB, w.before _ s = true := fun w z => atoms_spec (ws := (tp_wsT tp_yM_howMany tp_bM_howMany 4 (some .int))) B.pre w (List.mem_cons_of_mem _ z)
  have hown : s.vm.findClass tp_RM = some m.cls := findClass_of_methodNamed B.named
  have hlocks := B.notSynchronized
  have S : CallFix p m c tp_bM_howMany 4 s _ tp_TB tp_RM := ⟨hx, hb, hml, hown, hTB⟩
  subst hsz
  have hD : va_D (va_A (tp_wM h a cI cZ σ) s.heap.size) (tp_wM h a cI cZ σ) := hD0.self
  have hl := lv_entry ([.ref h, .int x1]) (n := 4) (Nat.le_of_ble_eq_true rfl)
  rw [lg_entry_eq]
  generalize (lg_sl ([.ref h, .int x1]) ++ List.replicate (4 - (lg_sl ([.ref h, .int x1])).length) Slot.unset).toArray = ls at hl ⊢
  have hl : lv_has ls 4 [(0, .ref h), (1, .int x1)] := hl
  rw [fM_howMany] at hr
  refine lv_iconst (v := 0) hx hb dM_howMany_0 (by decide) ?_
  refine lv_istore_n hx hb dM_howMany_1 rfl hl (by decide) rfl (fun ls hl => ?_)
  have hl : lv_has ls 4 [(2, .int 0), (0, .ref h), (1, .int x1)] := hl
  refine lv_iconst (v := 0) hx hb dM_howMany_2 (by decide) ?_
  refine lv_istore_n hx hb dM_howMany_3 rfl hl (by decide) rfl (fun ls hl => ?_)
  have hl : lv_has ls 4 [(3, .int 0), (2, .int 0), (0, .ref h), (1, .int x1)] := hl
  have loop4 : ∀ (n4 : Nat) (x2 : Int32) (x3 : Int32) (ls : Array Slot), fM_howMany_L4 σ x1 n4 x2 x3 = some r → lv_has ls 4 [(0, .ref h), (1, .int x1), (2, .int x2), (3, .int x3)] → W p l e { frames := 1, cells := 0, slots := 0, locals := 22 } s m (([.ref h, .int x1] : List Value).toArray) below meth c s.heap [] 0 0 (MQ below (tp_qI r) (([.ref h, .int x1] : List Value).toArray) s 0 0 tp_noF) (F0 m 4 ls []) := by
    intro n4
    induction n4 with
    | zero => intro x2 x3 ls hr hl; exact nomatch (show (none : Option Int32) = some r from hr)
    | succ n4 ih4 =>
      intro x2 x3 ls hr hl
      rw [fM_howMany_L4] at hr
      refine lv_iload_n hx hb dM_howMany_4 rfl (lv_at hl 3 rfl) ?_
      refine lv_bipush (v := 12) hx hb dM_howMany_5 (by decide) ?_
      refine lv_icmp_ge (tgt := 33) hx hb dM_howMany_7 (by decide) (fun hc1 => ?_) (fun hc1 => ?_)
      · replace hr := (if_pos hc1).symm.trans hr
        refine lv_iload_n hx hb dM_howMany_33 rfl (lv_at hl 2 rfl) ?_
        obtain rfl := Option.some.inj hr
        exact W.iret (v := x2) hx hb hrt (fun t ht _ => ⟨rfl, ht⟩) (fun _ z => nomatch z) dM_howMany_34 hlocks
      · replace hr := (if_neg hc1).symm.trans hr
        refine lv_aload_n hx hb dM_howMany_10 rfl (lv_at hl 0 rfl) ?_
        refine lv_iload_n hx hb dM_howMany_11 rfl (lv_at hl 1 rfl) ?_
        refine lv_iload_n hx hb dM_howMany_12 rfl (lv_at hl 3 rfl) ?_
        obtain ⟨q2, hq3, hr⟩ := Option.bind_eq_some_iff.mp hr
        refine tp_kP (rest := []) S hK hP hD rfl rfl (cM_isOn l D h a cI cZ _ σ x1 x3 q2 hq3) (cwV 2 hTB tp_gM_isOn rfl rfl rfl ⟨rfl, by decide, by decide, by decide +kernel⟩ ⟨Nat.le_of_ble_eq_true rfl, Nat.le_of_ble_eq_true rfl⟩) rfl hl.1 rfl (Nat.le_of_ble_eq_true rfl) dM_howMany_13 ⟨Nat.zero_le _, Nat.zero_le _⟩ ?_
        refine lv_if_eq (tgt := 25) hx hb dM_howMany_16 (by decide) (fun hc4 => ?_) (fun hc4 => ?_)
        · replace hr := (if_pos hc4).symm.trans hr
          refine lv_iload_n hx hb dM_howMany_25 rfl (lv_at hl 2 rfl) ?_
          refine lv_istore_n hx hb dM_howMany_26 rfl hl (by decide) rfl (fun ls hl => ?_)
          have hl : lv_has ls 4 [(2, .int x2), (0, .ref h), (1, .int x1), (3, .int x3)] := hl
          refine lv_iinc (k := 3) (v := (x3 + 1)) hx hb dM_howMany_27 hl rfl (tp_ii1 _) (by decide) rfl (fun ls hl => ?_)
          have hl : lv_has ls 4 [(3, .int (x3 + 1)), (2, .int x2), (0, .ref h), (1, .int x1)] := hl
          refine lv_goto (tgt := 4) hx hb dM_howMany_30 (by decide) ?_
          exact ih4 x2 (x3 + 1) ls hr (lv_sub hl [2, 3, 1, 0] rfl)
        · replace hr := (if_neg hc4).symm.trans hr
          refine lv_iload_n hx hb dM_howMany_19 rfl (lv_at hl 2 rfl) ?_
          refine lv_iconst (v := 1) hx hb dM_howMany_20 (by decide) ?_
          refine lv_iadd hx hb dM_howMany_21 ?_
          refine lv_goto (tgt := 26) hx hb dM_howMany_22 (by decide) ?_
          refine lv_istore_n hx hb dM_howMany_26 rfl hl (by decide) rfl (fun ls hl => ?_)
          have hl : lv_has ls 4 [(2, .int (x2 + 1)), (0, .ref h), (1, .int x1), (3, .int x3)] := hl
          refine lv_iinc (k := 3) (v := (x3 + 1)) hx hb dM_howMany_27 hl rfl (tp_ii1 _) (by decide) rfl (fun ls hl => ?_)
          have hl : lv_has ls 4 [(3, .int (x3 + 1)), (2, .int (x2 + 1)), (0, .ref h), (1, .int x1)] := hl
          refine lv_goto (tgt := 4) hx hb dM_howMany_30 (by decide) ?_
          exact ih4 (x2 + 1) (x3 + 1) ls hr (lv_sub hl [2, 3, 1, 0] rfl)
  exact loop4 13 0 0 ls hr (lv_sub hl [2, 3, 1, 0] rfl)
