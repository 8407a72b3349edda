set_option maxHeartbeats 4000000 in
set_option maxRecDepth 100000 in
theorem cM_chunk (l : Launch) (D : va_G) (h : Nat) (a : Nat → Nat) (cI cZ : ClassId) (sz : Nat) (σ : tp_St) (r : (Int32 × tp_St)) (hr : fM_chunk σ = some r) : Met l tp_yM_chunk (tp_wsT tp_yM_chunk tp_bM_chunk 2 (some .int)) { frames := 5, cells := 0, slots := 0, locals := 115 } (tp_PcW D [(cI, .int), (cZ, .boolean)] (tp_wM h a cI cZ σ) sz [.ref h]) (tp_qW (some (.int r.1)) D (tp_wM h a cI cZ r.2) (va_A (tp_wM h a cI cZ σ) sz)) 0 0 (va_A (tp_wM h a cI cZ σ) sz) := by
  refine Met.ofW (cc := tp_bM_chunk) (maxL := 2) (ret := (some .int)) (by decide) rfl ?_
  intro p e s m args below meth c s₁ B hml hv
  obtain ⟨rfl, hsz, hP, hK, hD0⟩ := hv
  have hx := B.exec
  have hb := B.bytes
  have hrt := B.returns
  have hTB : ∀ w ∈ tp_TB, w.before _ s = true := fun w z => atoms_spec (ws := (tp_wsT tp_yM_chunk tp_bM_chunk 2 (some .int))) B.pre w (List.mem_cons_of_mem _ z)
  have hown : s.vm.findClass tp_RM = some m.cls := findClass_of_methodNamed B.named
  have hlocks := B.notSynchronized
  have S : CallFix p m c tp_bM_chunk 2 s _ tp_TB tp_RM := ⟨hx, hb, hml, hown, hTB⟩
  subst hsz
  have hD : va_D (va_A (tp_wM h a cI cZ σ) s.heap.size) (tp_wM h a cI cZ σ) := hD0.self
  have hA : ∀ q : Nat, s.heap.size ≤ q → va_A (tp_wM h a cI cZ σ) s.heap.size q := fun q z => Or.inr z
  have hS : va_S (va_A (tp_wM h a cI cZ σ) s.heap.size) s.heap s.heap [] := va_S.rf
  have hl := lv_entry ([.ref h]) (n := 2) (Nat.le_of_ble_eq_true rfl)
  rw [lg_entry_eq]
  generalize (lg_sl ([.ref h]) ++ List.replicate (2 - (lg_sl ([.ref h])).length) Slot.unset).toArray = ls at hl ⊢
  have hl : lv_has ls 2 [(0, .ref h)] := hl
  rw [fM_chunk] at hr
  refine lv_aload_n hx hb dM_chunk_0 rfl (lv_at hl 0 rfl) ?_
  obtain ⟨q1, hq2, hr⟩ := Option.bind_eq_some_iff.mp hr
  refine tp_kV (rest := []) S hK hP hD hS hA rfl rfl (cM_newChunk l D h a cI cZ _ σ  q1 hq2) (cwV 0 hTB tp_gM_newChunk rfl rfl rfl ⟨rfl, by decide, by decide, by decide +kernel⟩ ⟨Nat.le_of_ble_eq_true rfl, Nat.le_of_ble_eq_true rfl⟩) rfl hl.1 rfl (Nat.le_of_ble_eq_true rfl) dM_chunk_1 ⟨Nat.zero_le _, Nat.zero_le _⟩ (fun H locs hP hS => ?_)
  have hP : va_P D tp_CL (tp_wM h a cI cZ q1.2) H := hP
  have hD : va_D (va_A (tp_wM h a cI cZ σ) s.heap.size) (tp_wM h a cI cZ q1.2) := tp_dre hD tp_wM_fst
  refine lv_istore_n hx hb dM_chunk_4 rfl hl (by decide) rfl (fun ls hl => ?_)
  have hl : lv_has ls 2 [(1, .int q1.1), (0, .ref h)] := hl
  refine lv_aload_n hx hb dM_chunk_5 rfl (lv_at hl 1 rfl) ?_
  refine lv_iload_n hx hb dM_chunk_6 rfl (lv_at hl 0 rfl) ?_
  refine lv_if_ge (tgt := 14) hx hb dM_chunk_7 (by decide) (fun hc3 => ?_) (fun hc3 => ?_)
  · replace hr := (if_pos hc3).symm.trans hr
    refine lv_iconst (v := 0) hx hb dM_chunk_14 (by decide) ?_
    refine tp_ptM0 S hK hP hD hS tp_mM_f0 dM_chunk_15 (fun H locs hP hD hS => ?_)
    refine lv_iload_n hx hb dM_chunk_18 rfl (lv_at hl 0 rfl) ?_
    refine lv_if_ge (tgt := 26) hx hb dM_chunk_19 (by decide) (fun hc4 => ?_) (fun hc4 => ?_)
    · replace hr := (if_pos hc4).symm.trans hr
      refine lv_iload_n hx hb dM_chunk_26 rfl (lv_at hl 0 rfl) ?_
      obtain rfl := Option.some.inj hr
      exact W.iret (v := q1.1) hx hb hrt (fun t ht _ => ⟨rfl, by rw [ht]; exact hP, hS.F ht⟩) hS.2.2 dM_chunk_27 hlocks
    · replace hr := (if_neg hc4).symm.trans hr
      refine lv_iconst (v := 0) hx hb dM_chunk_22 (by decide) ?_
      refine lv_goto (tgt := 27) hx hb dM_chunk_23 (by decide) ?_
      obtain rfl := Option.some.inj hr
      exact W.iret (v := 0) hx hb hrt (fun t ht _ => ⟨rfl, by rw [ht]; exact hP, hS.F ht⟩) hS.2.2 dM_chunk_27 hlocks
  · replace hr := (if_neg hc3).symm.trans hr
    refine lv_iconst (v := 1) hx hb dM_chunk_10 (by decide) ?_
    refine lv_goto (tgt := 15) hx hb dM_chunk_11 (by decide) ?_
    refine tp_ptM0 S hK hP hD hS tp_mM_f0 dM_chunk_15 (fun H locs hP hD hS => ?_)
    refine lv_iload_n hx hb dM_chunk_18 rfl (lv_at hl 0 rfl) ?_
    refine lv_if_ge (tgt := 26) hx hb dM_chunk_19 (by decide) (fun hc5 => ?_) (fun hc5 => ?_)
    · replace hr := (if_pos hc5).symm.trans hr
      refine lv_iload_n hx hb dM_chunk_26 rfl (lv_at hl 0 rfl) ?_
      obtain rfl := Option.some.inj hr
      exact W.iret (v := q1.1) hx hb hrt (fun t ht _ => ⟨rfl, by rw [ht]; exact hP, hS.F ht⟩) hS.2.2 dM_chunk_27 hlocks
    · replace hr := (if_neg hc5).symm.trans hr
      refine lv_iconst (v := 0) hx hb dM_chunk_22 (by decide) ?_
      refine lv_goto (tgt := 27) hx hb dM_chunk_23 (by decide) ?_
      obtain rfl := Option.some.inj hr
      exact W.iret (v := 0) hx hb hrt (fun t ht _ => ⟨rfl, by rw [ht]; exact hP, hS.F ht⟩) hS.2.2 dM_chunk_27 hlocks
set_option maxHeartbeats 4000000 in
set_option maxRecDepth 100000 in
theorem cM_chunks (l : Launch) (D : va_G) (h : Nat) (a : Nat → Nat) (cI cZ : ClassId) (sz : Nat) (σ : tp_St) (x1 : Int32) (r : (Int32 × tp_St)) (hr : fM_chunks σ x1 = some r) : Met l tp_yM_chunks (tp_wsT tp_yM_chunks tp_bM_chunks 3 (some .int)) { frames := 5, cells := 0, slots := 0, locals := 115 } (tp_PcW D [(cI, .int), (cZ, .boolean)] (tp_wM h a cI cZ σ) sz [.ref h, .int x1]) (tp_qW (some (.int r.1)) D (tp_wM h a cI cZ r.2) (va_A (tp_wM h a cI cZ σ) sz)) 0 0 (va_A (tp_wM h a cI cZ σ) sz) := by
  refine Met.ofW (cc := tp_bM_chunks) (maxL := 3) (ret := (some .int)) (by decide) rfl ?_
  intro p e s m args below meth c s₁ B hml hv
  obtain ⟨rfl, hsz, hP, hK, hD0⟩ := hv
  have hx := B.exec
  have hb := B.bytes
  have hrt := B.returns
  have hTB : ∀ w ∈ tp_TB, w.before _ s = true := fun w z => atoms_spec (ws := (tp_wsT tp_yM_chunks tp_bM_chunks 3 (some .int))) B.pre w (List.mem_cons_of_mem _ z)
  have hown : s.vm.findClass tp_RM = some m.cls := findClass_of_methodNamed B.named
  have hlocks := B.notSynchronized
  have S : CallFix p m c tp_bM_chunks 3 s _ tp_TB tp_RM := ⟨hx, hb, hml, hown, hTB⟩
  subst hsz
  have hD : va_D (va_A (tp_wM h a cI cZ σ) s.heap.size) (tp_wM h a cI cZ σ) := hD0.self
  have hA : ∀ q : Nat, s.heap.size ≤ q → va_A (tp_wM h a cI cZ σ) s.heap.size q := fun q z => Or.inr z
  have hS : va_S (va_A (tp_wM h a cI cZ σ) s.heap.size) s.heap s.heap [] := va_S.rf
  have hl := lv_entry ([.ref h, .int x1]) (n := 3) (Nat.le_of_ble_eq_true rfl)
  rw [lg_entry_eq]
  generalize (lg_sl ([.ref h, .int x1]) ++ List.replicate (3 - (lg_sl ([.ref h, .int x1])).length) Slot.unset).toArray = ls at hl ⊢
  have hl : lv_has ls 3 [(0, .ref h), (1, .int x1)] := hl
  rw [fM_chunks] at hr
  refine lv_aload_n hx hb dM_chunks_0 rfl (lv_at hl 0 rfl) ?_
  refine lv_iload_n hx hb dM_chunks_1 rfl (lv_at hl 1 rfl) ?_
  refine lv_if_ge (tgt := 9) hx hb dM_chunks_2 (by decide) (fun hc1 => ?_) (fun hc1 => ?_)
  · replace hr := (if_pos hc1).symm.trans hr
    refine lv_iconst (v := 0) hx hb dM_chunks_9 (by decide) ?_
    refine tp_ptM0 S hK hP hD hS tp_mM_f0 dM_chunks_10 (fun H locs hP hD hS => ?_)
    refine lv_iconst (v := 0) hx hb dM_chunks_13 (by decide) ?_
    refine lv_istore_n hx hb dM_chunks_14 rfl hl (by decide) rfl (fun ls hl => ?_)
    have hl : lv_has ls 3 [(2, .int 0), (0, .ref h), (1, .int x1)] := hl
    have loop15 : ∀ (n15 : Nat) (x2 : Int32) (σ15 : tp_St) (H : Heap) (locs : List Loc) (ls : Array Slot), fM_chunks_L15 x1 n15 x2 σ15 = some r → lv_has ls 3 [(0, .ref h), (1, .int x1), (2, .int x2)] → va_P D tp_CL (tp_wM h a cI cZ σ15) H → va_D (va_A (tp_wM h a cI cZ σ) s.heap.size) (tp_wM h a cI cZ σ15) → va_S (va_A (tp_wM h a cI cZ σ) s.heap.size) s.heap H locs → W p l e { frames := 5, cells := 0, slots := 0, locals := 115 } s m (([.ref h, .int x1] : List Value).toArray) below meth c H locs 0 0 (MQ below (tp_qW (some (.int r.1)) D (tp_wM h a cI cZ r.2) (va_A (tp_wM h a cI cZ σ) s.heap.size)) (([.ref h, .int x1] : List Value).toArray) s 0 0 (va_A (tp_wM h a cI cZ σ) s.heap.size)) (F0 m 15 ls []) := by
      intro n15
      induction n15 with
      | zero => intro x2 σ15 H locs ls hr hl hP hD hS; exact nomatch (show (none : Option (Int32 × tp_St)) = some r from hr)
      | succ n15 ih15 =>
        intro x2 σ15 H locs ls hr hl hP hD hS
        rw [fM_chunks_L15] at hr
        refine lv_iload_n hx hb dM_chunks_15 rfl (lv_at hl 2 rfl) ?_
        refine lv_iload_n hx hb dM_chunks_16 rfl (lv_at hl 1 rfl) ?_
        refine lv_icmp_ge (tgt := 33) hx hb dM_chunks_17 (by decide) (fun hc2 => ?_) (fun hc2 => ?_)
        · replace hr := (if_pos hc2).symm.trans hr
          refine lv_iload_n hx hb dM_chunks_33 rfl (lv_at hl 2 rfl) ?_
          obtain rfl := Option.some.inj hr
          exact W.iret (v := x2) hx hb hrt (fun t ht _ => ⟨rfl, by rw [ht]; exact hP, hS.F ht⟩) hS.2.2 dM_chunks_34 hlocks
        · replace hr := (if_neg hc2).symm.trans hr
          refine lv_aload_n hx hb dM_chunks_20 rfl (lv_at hl 0 rfl) ?_
          obtain ⟨q3, hq4, hr⟩ := Option.bind_eq_some_iff.mp hr
          refine tp_kV (rest := []) S hK hP hD hS hA rfl rfl (cM_newChunk l D h a cI cZ _ σ15  q3 hq4) (cwV 0 hTB tp_gM_newChunk rfl rfl rfl ⟨rfl, by decide, by decide, by decide +kernel⟩ ⟨Nat.le_of_ble_eq_true rfl, Nat.le_of_ble_eq_true rfl⟩) rfl hl.1 rfl (Nat.le_of_ble_eq_true rfl) dM_chunks_21 ⟨Nat.zero_le _, Nat.zero_le _⟩ (fun H locs hP hS => ?_)
          have hP : va_P D tp_CL (tp_wM h a cI cZ q3.2) H := hP
          have hD : va_D (va_A (tp_wM h a cI cZ σ) s.heap.size) (tp_wM h a cI cZ q3.2) := tp_dre hD tp_wM_fst
          refine lv_if_lt (tgt := 33) hx hb dM_chunks_24 (by decide) (fun hc5 => ?_) (fun hc5 => ?_)
          · replace hr := (if_pos hc5).symm.trans hr
            refine lv_iload_n hx hb dM_chunks_33 rfl (lv_at hl 2 rfl) ?_
            obtain rfl := Option.some.inj hr
            exact W.iret (v := x2) hx hb hrt (fun t ht _ => ⟨rfl, by rw [ht]; exact hP, hS.F ht⟩) hS.2.2 dM_chunks_34 hlocks
          · replace hr := (if_neg hc5).symm.trans hr
            refine lv_iinc (k := 2) (v := (x2 + 1)) hx hb dM_chunks_27 hl rfl (tp_ii1 _) (by decide) rfl (fun ls hl => ?_)
            have hl : lv_has ls 3 [(2, .int (x2 + 1)), (0, .ref h), (1, .int x1)] := hl
            refine lv_goto (tgt := 15) hx hb dM_chunks_30 (by decide) ?_
            exact ih15 (x2 + 1) q3.2 H locs ls hr (lv_sub hl [1, 2, 0] rfl) hP hD hS
    exact loop15 402 0 (tp_up σ 0 0 0) _ _ ls hr (lv_sub hl [1, 2, 0] rfl) hP hD hS
  · replace hr := (if_neg hc1).symm.trans hr
    refine lv_iconst (v := 1) hx hb dM_chunks_5 (by decide) ?_
    refine lv_goto (tgt := 10) hx hb dM_chunks_6 (by decide) ?_
    refine tp_ptM0 S hK hP hD hS tp_mM_f0 dM_chunks_10 (fun H locs hP hD hS => ?_)
    refine lv_iconst (v := 0) hx hb dM_chunks_13 (by decide) ?_
    refine lv_istore_n hx hb dM_chunks_14 rfl hl (by decide) rfl (fun ls hl => ?_)
    have hl : lv_has ls 3 [(2, .int 0), (0, .ref h), (1, .int x1)] := hl
    have loop15 : ∀ (n15 : Nat) (x2 : Int32) (σ15 : tp_St) (H : Heap) (locs : List Loc) (ls : Array Slot), fM_chunks_L15 x1 n15 x2 σ15 = some r → lv_has ls 3 [(0, .ref h), (1, .int x1), (2, .int x2)] → va_P D tp_CL (tp_wM h a cI cZ σ15) H → va_D (va_A (tp_wM h a cI cZ σ) s.heap.size) (tp_wM h a cI cZ σ15) → va_S (va_A (tp_wM h a cI cZ σ) s.heap.size) s.heap H locs → W p l e { frames := 5, cells := 0, slots := 0, locals := 115 } s m (([.ref h, .int x1] : List Value).toArray) below meth c H locs 0 0 (MQ below (tp_qW (some (.int r.1)) D (tp_wM h a cI cZ r.2) (va_A (tp_wM h a cI cZ σ) s.heap.size)) (([.ref h, .int x1] : List Value).toArray) s 0 0 (va_A (tp_wM h a cI cZ σ) s.heap.size)) (F0 m 15 ls []) := by
      intro n15
      induction n15 with
      | zero => intro x2 σ15 H locs ls hr hl hP hD hS; exact nomatch (show (none : Option (Int32 × tp_St)) = some r from hr)
      | succ n15 ih15 =>
        intro x2 σ15 H locs ls hr hl hP hD hS
        rw [fM_chunks_L15] at hr
        refine lv_iload_n hx hb dM_chunks_15 rfl (lv_at hl 2 rfl) ?_
        refine lv_iload_n hx hb dM_chunks_16 rfl (lv_at hl 1 rfl) ?_
        refine lv_icmp_ge (tgt := 33) hx hb dM_chunks_17 (by decide) (fun hc6 => ?_) (fun hc6 => ?_)
        · replace hr := (if_pos hc6).symm.trans hr
          refine lv_iload_n hx hb dM_chunks_33 rfl (lv_at hl 2 rfl) ?_
          obtain rfl := Option.some.inj hr
          exact W.iret (v := x2) hx hb hrt (fun t ht _ => ⟨rfl, by rw [ht]; exact hP, hS.F ht⟩) hS.2.2 dM_chunks_34 hlocks
        · replace hr := (if_neg hc6).symm.trans hr
          refine lv_aload_n hx hb dM_chunks_20 rfl (lv_at hl 0 rfl) ?_
          obtain ⟨q7, hq8, hr⟩ := Option.bind_eq_some_iff.mp hr
          refine tp_kV (rest := []) S hK hP hD hS hA rfl rfl (cM_newChunk l D h a cI cZ _ σ15  q7 hq8) (cwV 0 hTB tp_gM_newChunk rfl rfl rfl ⟨rfl, by decide, by decide, by decide +kernel⟩ ⟨Nat.le_of_ble_eq_true rfl, Nat.le_of_ble_eq_true rfl⟩) rfl hl.1 rfl (Nat.le_of_ble_eq_true rfl) dM_chunks_21 ⟨Nat.zero_le _, Nat.zero_le _⟩ (fun H locs hP hS => ?_)
          have hP : va_P D tp_CL (tp_wM h a cI cZ q7.2) H := hP
          have hD : va_D (va_A (tp_wM h a cI cZ σ) s.heap.size) (tp_wM h a cI cZ q7.2) := tp_dre hD tp_wM_fst
          refine lv_if_lt (tgt := 33) hx hb dM_chunks_24 (by decide) (fun hc9 => ?_) (fun hc9 => ?_)
          · replace hr := (if_pos hc9).symm.trans hr
            refine lv_iload_n hx hb dM_chunks_33 rfl (lv_at hl 2 rfl) ?_
            obtain rfl := Option.some.inj hr
            exact W.iret (v := x2) hx hb hrt (fun t ht _ => ⟨rfl, by rw [ht]; exact hP, hS.F ht⟩) hS.2.2 dM_chunks_34 hlocks
          · replace hr := (if_neg hc9).symm.trans hr
            refine lv_iinc (k := 2) (v := (x2 + 1)) hx hb dM_chunks_27 hl rfl (tp_ii1 _) (by decide) rfl (fun ls hl => ?_)
            have hl : lv_has ls 3 [(2, .int (x2 + 1)), (0, .ref h), (1, .int x1)] := hl
            refine lv_goto (tgt := 15) hx hb dM_chunks_30 (by decide) ?_
            exact ih15 (x2 + 1) q7.2 H locs ls hr (lv_sub hl [1, 2, 0] rfl) hP hD hS
    exact loop15 402 0 (tp_up σ 0 0 1) _ _ ls hr (lv_sub hl [1, 2, 0] rfl) hP hD hS
set_option maxHeartbeats 4000000 in
set_option maxRecDepth 100000 in
theorem cM_free (l : Launch) (D : va_G) (h : Nat) (a : Nat → Nat) (cI cZ : ClassId) (sz : Nat) (σ : tp_St) (x1 : Int32) (r : (Int32 × tp_St)) (hr : fM_free σ x1 = some r) : Met l tp_yM_free (tp_wsT tp_yM_free tp_bM_free 3 (some .int)) { frames := 3, cells := 0, slots := 0, locals := 66 } (tp_PcW D [(cI, .int), (cZ, .boolean)] (tp_wM h a cI cZ σ) sz [.ref h, .int x1]) (tp_qW (some (.int r.1)) D (tp_wM h a cI cZ r.2) (va_A (tp_wM h a cI cZ σ) sz)) 0 0 (va_A (tp_wM h a cI cZ σ) sz) := by
  refine Met.ofW (cc := tp_bM_free) (maxL := 3) (ret := (some .int)) (by decide) rfl ?_
  intro p e s m args below meth c s₁ B hml hv
  obtain ⟨rfl, hsz, hP, hK, hD0⟩ := hv
  have hx := B.exec
  have hb := B.bytes
  have hrt := B.returns
  have hTB : ∀ w ∈ tp_TB, w.before _ s = true := fun w z => atoms_spec (ws := (tp_wsT tp_yM_free tp_bM_free 3 (some .int))) B.pre w (List.mem_cons_of_mem _ z)
  have hown : s.vm.findClass tp_RM = some m.cls := findClass_of_methodNamed B.named
  have hlocks := B.notSynchronized
  have S : CallFix p m c tp_bM_free 3 s _ tp_TB tp_RM := ⟨hx, hb, hml, hown, hTB⟩
  subst hsz
  have hD : va_D (va_A (tp_wM h a cI cZ σ) s.heap.size) (tp_wM h a cI cZ σ) := hD0.self
  have hA : ∀ q : Nat, s.heap.size ≤ q → va_A (tp_wM h a cI cZ σ) s.heap.size q := fun q z => Or.inr z
  have hS : va_S (va_A (tp_wM h a cI cZ σ) s.heap.size) s.heap s.heap [] := va_S.rf
  have hl := lv_entry ([.ref h, .int x1]) (n := 3) (Nat.le_of_ble_eq_true rfl)
  rw [lg_entry_eq]
  generalize (lg_sl ([.ref h, .int x1]) ++ List.replicate (3 - (lg_sl ([.ref h, .int x1])).length) Slot.unset).toArray = ls at hl ⊢
  have hl : lv_has ls 3 [(0, .ref h), (1, .int x1)] := hl
  rw [fM_free] at hr
  refine lv_aload_n hx hb dM_free_0 rfl (lv_at hl 0 rfl) ?_
  refine lv_aload_n hx hb dM_free_1 rfl (lv_at hl 0 rfl) ?_
  refine lv_iload_n hx hb dM_free_2 rfl (lv_at hl 1 rfl) ?_
  obtain ⟨q1, hq2, hr⟩ := Option.bind_eq_some_iff.mp hr
  refine tp_kP (rest := [.ref h]) S hK hP hD rfl rfl (cM_isChunk l D h a cI cZ _ σ x1 q1 hq2) (cwV 1 hTB tp_gM_isChunk rfl rfl rfl ⟨rfl, by decide, by decide, by decide +kernel⟩ ⟨Nat.le_of_ble_eq_true rfl, Nat.le_of_ble_eq_true rfl⟩) rfl hl.1 rfl (Nat.le_of_ble_eq_true rfl) dM_free_3 ⟨Nat.zero_le _, Nat.zero_le _⟩ ?_
  refine lv_if_eq (tgt := 13) hx hb dM_free_6 (by decide) (fun hc3 => ?_) (fun hc3 => ?_)
  · replace hr := (if_pos hc3).symm.trans hr
    refine lv_iconst (v := 1) hx hb dM_free_13 (by decide) ?_
    refine tp_ptM0 S hK hP hD hS tp_mM_f0 dM_free_14 (fun H locs hP hD hS => ?_)
    refine lv_aload_n hx hb dM_free_17 rfl (lv_at hl 0 rfl) ?_
    refine tp_gtM S hK hP 0 (by decide) (v := .int 1) tp_mM_f0 rfl dM_free_18 ?_
    refine lv_if_le (tgt := 26) hx hb dM_free_21 (by decide) (fun z => absurd z (by decide)) (fun _ => ?_)
    refine lv_iconst (v := 0) hx hb dM_free_24 (by decide) ?_
    obtain rfl := Option.some.inj hr
    exact W.iret (v := 0) hx hb hrt (fun t ht _ => ⟨rfl, by rw [ht]; exact hP, hS.F ht⟩) hS.2.2 dM_free_25 hlocks
  · replace hr := (if_neg hc3).symm.trans hr
    refine lv_iconst (v := 0) hx hb dM_free_9 (by decide) ?_
    refine lv_goto (tgt := 14) hx hb dM_free_10 (by decide) ?_
    refine tp_ptM0 S hK hP hD hS tp_mM_f0 dM_free_14 (fun H locs hP hD hS => ?_)
    refine lv_aload_n hx hb dM_free_17 rfl (lv_at hl 0 rfl) ?_
    refine tp_gtM S hK hP 0 (by decide) (v := .int 0) tp_mM_f0 rfl dM_free_18 ?_
    refine lv_if_le (tgt := 26) hx hb dM_free_21 (by decide) (fun _ => ?_) (fun z => absurd (by decide) z)
    refine lv_aload_n hx hb dM_free_26 rfl (lv_at hl 0 rfl) ?_
    refine lv_iload_n hx hb dM_free_27 rfl (lv_at hl 1 rfl) ?_
    obtain ⟨q4, hq5, hr⟩ := Option.bind_eq_some_iff.mp hr
    refine tp_kP (rest := []) S hK hP hD rfl rfl (cM_howMany l D h a cI cZ _ (tp_up σ 0 0 0) x1 q4 hq5) (cwV 1 hTB tp_gM_howMany rfl rfl rfl ⟨rfl, by decide, by decide, by decide +kernel⟩ ⟨Nat.le_of_ble_eq_true rfl, Nat.le_of_ble_eq_true rfl⟩) rfl hl.1 rfl (Nat.le_of_ble_eq_true rfl) dM_free_28 ⟨Nat.zero_le _, Nat.zero_le _⟩ ?_
    refine lv_istore_n hx hb dM_free_31 rfl hl (by decide) rfl (fun ls hl => ?_)
    have hl : lv_has ls 3 [(2, .int q4), (0, .ref h), (1, .int x1)] := hl
    refine lv_aload_n hx hb dM_free_32 rfl (lv_at hl 1 rfl) ?_
    refine tp_gtM S hK hP 3 (by decide) (v := .ref (a 3)) tp_mM_f3 rfl dM_free_33 ?_
    refine lv_iload_n hx hb dM_free_36 rfl (lv_at hl 2 rfl) ?_
    refine lv_iconst (v := 0) hx hb dM_free_37 (by decide) ?_
    by_cases hb6 : tp_oob x1 400
    · exact nomatch ((if_pos hb6).symm.trans hr)
    replace hr := (if_neg hb6).symm.trans hr
    refine tp_asM3 S hK hP hD hS hb6 dM_free_38 (fun H locs hP hD hS => ?_)
    refine lv_aload_n hx hb dM_free_39 rfl (lv_at hl 1 rfl) ?_
    refine tp_gtM S hK hP 4 (by decide) (v := .ref (a 4)) tp_mM_f4 rfl dM_free_40 ?_
    refine lv_iload_n hx hb dM_free_43 rfl (lv_at hl 2 rfl) ?_
    refine lv_iconst (v := 0) hx hb dM_free_44 (by decide) ?_
    refine tp_asM4 S hK hP hD hS hb6 dM_free_45 (fun H locs hP hD hS => ?_)
    refine lv_aload_n hx hb dM_free_46 rfl (lv_at hl 1 rfl) ?_
    obtain ⟨q7, hq8, hr⟩ := Option.bind_eq_some_iff.mp hr
    refine tp_kV (rest := []) S hK hP hD hS hA rfl rfl (cM_tidy l D h a cI cZ _ (tp_up (tp_up (tp_up σ 0 0 0) 3 x1.toNatClampNeg (vp_nar .boolean 0)) 4 x1.toNatClampNeg 0)  q7 hq8) (cwV 0 hTB tp_gM_tidy rfl rfl rfl ⟨rfl, by decide, by decide, by decide +kernel⟩ ⟨Nat.le_of_ble_eq_true rfl, Nat.le_of_ble_eq_true rfl⟩) rfl hl.1 rfl (Nat.le_of_ble_eq_true rfl) dM_free_47 ⟨Nat.zero_le _, Nat.zero_le _⟩ (fun H locs hP hS => ?_)
    have hP : va_P D tp_CL (tp_wM h a cI cZ q7) H := hP
    have hD : va_D (va_A (tp_wM h a cI cZ σ) s.heap.size) (tp_wM h a cI cZ q7) := tp_dre hD tp_wM_fst
    refine lv_iload_n hx hb dM_free_50 rfl (lv_at hl 0 rfl) ?_
    obtain rfl := Option.some.inj hr
    exact W.iret (v := q4) hx hb hrt (fun t ht _ => ⟨rfl, by rw [ht]; exact hP, hS.F ht⟩) hS.2.2 dM_free_51 hlocks
set_option maxHeartbeats 4000000 in
set_option maxRecDepth 100000 in
theorem cM_copyOne (l : Launch) (D : va_G) (h : Nat) (a : Nat → Nat) (cI cZ : ClassId) (sz : Nat) (σ : tp_St) (r : (Int32 × tp_St)) (hr : fM_copyOne σ = some r) : Met l tp_yM_copyOne (tp_wsT tp_yM_copyOne tp_bM_copyOne 3 (some .boolean)) { frames := 4, cells := 0, slots := 0, locals := 91 } (tp_PcW D [(cI, .int), (cZ, .boolean)] (tp_wM h a cI cZ σ) sz [.ref h]) (tp_qW (some (.int r.1)) D (tp_wM h a cI cZ r.2) (va_A (tp_wM h a cI cZ σ) sz)) 0 0 (va_A (tp_wM h a cI cZ σ) sz) := by
  refine Met.ofW (cc := tp_bM_copyOne) (maxL := 3) (ret := (some .boolean)) (by decide) rfl ?_
  intro p e s m args below meth c s₁ B hml hv
  obtain ⟨rfl, hsz, hP, hK, hD0⟩ := hv
  have hx := B.exec
  have hb := B.bytes
  have hrt := B.returns
  have hTB : ∀ w ∈ tp_TB, w.before _ s = true := fun w z => atoms_spec (ws := (tp_wsT tp_yM_copyOne tp_bM_copyOne 3 (some .boolean))) B.pre w (List.mem_cons_of_mem _ z)
  have hown : s.vm.findClass tp_RM = some m.cls := findClass_of_methodNamed B.named
  have hlocks := B.notSynchronized
  have S : CallFix p m c tp_bM_copyOne 3 s _ tp_TB tp_RM := ⟨hx, hb, hml, hown, hTB⟩
  subst hsz
  have hD : va_D (va_A (tp_wM h a cI cZ σ) s.heap.size) (tp_wM h a cI cZ σ) := hD0.self
  have hA : ∀ q : Nat, s.heap.size ≤ q → va_A (tp_wM h a cI cZ σ) s.heap.size q := fun q z => Or.inr z
  have hS : va_S (va_A (tp_wM h a cI cZ σ) s.heap.size) s.heap s.heap [] := va_S.rf
  have hl := lv_entry ([.ref h]) (n := 3) (Nat.le_of_ble_eq_true rfl)
  rw [lg_entry_eq]
  generalize (lg_sl ([.ref h]) ++ List.replicate (3 - (lg_sl ([.ref h])).length) Slot.unset).toArray = ls at hl ⊢
  have hl : lv_has ls 3 [(0, .ref h)] := hl
  rw [fM_copyOne] at hr
  refine lv_iconst (v := 0) hx hb dM_copyOne_0 (by decide) ?_
  refine lv_istore_n hx hb dM_copyOne_1 rfl hl (by decide) rfl (fun ls hl => ?_)
  have hl : lv_has ls 3 [(1, .int 0), (0, .ref h)] := hl
  have loop2 : ∀ (n2 : Nat) (x1 : Int32) (σ2 : tp_St) (H : Heap) (locs : List Loc) (ls : Array Slot), fM_copyOne_L2  n2 x1 σ2 = some r → lv_has ls 3 [(0, .ref h), (1, .int x1)] → va_P D tp_CL (tp_wM h a cI cZ σ2) H → va_D (va_A (tp_wM h a cI cZ σ) s.heap.size) (tp_wM h a cI cZ σ2) → va_S (va_A (tp_wM h a cI cZ σ) s.heap.size) s.heap H locs → W p l e { frames := 4, cells := 0, slots := 0, locals := 91 } s m (([.ref h] : List Value).toArray) below meth c H locs 0 0 (MQ below (tp_qW (some (.int r.1)) D (tp_wM h a cI cZ r.2) (va_A (tp_wM h a cI cZ σ) s.heap.size)) (([.ref h] : List Value).toArray) s 0 0 (va_A (tp_wM h a cI cZ σ) s.heap.size)) (F0 m 2 ls []) := by
    intro n2
    induction n2 with
    | zero => intro x1 σ2 H locs ls hr hl hP hD hS; exact nomatch (show (none : Option (Int32 × tp_St)) = some r from hr)
    | succ n2 ih2 =>
      intro x1 σ2 H locs ls hr hl hP hD hS
      rw [fM_copyOne_L2] at hr
      refine lv_iload_n hx hb dM_copyOne_2 rfl (lv_at hl 1 rfl) ?_
      refine lv_sipush (v := 400) hx hb dM_copyOne_3 (by decide) ?_
      refine lv_icmp_ge (tgt := 62) hx hb dM_copyOne_6 (by decide) (fun hc1 => ?_) (fun hc1 => ?_)
      · replace hr := (if_pos hc1).symm.trans hr
        refine lv_iconst (v := 0) hx hb dM_copyOne_62 (by decide) ?_
        obtain rfl := Option.some.inj hr
        exact W.zret (v := 0) hx hb hrt (by decide) (fun t ht _ => ⟨rfl, by rw [ht]; exact hP, hS.F ht⟩) hS.2.2 dM_copyOne_63 hlocks
      · replace hr := (if_neg hc1).symm.trans hr
        refine lv_aload_n hx hb dM_copyOne_9 rfl (lv_at hl 0 rfl) ?_
        refine tp_gtM S hK hP 3 (by decide) (v := .ref (a 3)) tp_mM_f3 rfl dM_copyOne_10 ?_
        refine lv_iload_n hx hb dM_copyOne_13 rfl (lv_at hl 1 rfl) ?_
        by_cases hb2 : tp_oob x1 400
        · exact nomatch ((if_pos hb2).symm.trans hr)
        replace hr := (if_neg hb2).symm.trans hr
        refine va_zald hx hb hK hP 3 1 rfl rfl hb2 dM_copyOne_14 ?_
        refine lv_if_eq (tgt := 56) hx hb dM_copyOne_15 (by decide) (fun hc3 => ?_) (fun hc3 => ?_)
        · replace hr := (if_pos hc3).symm.trans hr
          refine lv_iinc (k := 1) (v := (x1 + 1)) hx hb dM_copyOne_56 hl rfl (tp_ii1 _) (by decide) rfl (fun ls hl => ?_)
          have hl : lv_has ls 3 [(1, .int (x1 + 1)), (0, .ref h)] := hl
          refine lv_goto (tgt := 2) hx hb dM_copyOne_59 (by decide) ?_
          exact ih2 (x1 + 1) σ2 H locs ls hr (lv_sub hl [1, 0] rfl) hP hD hS
        · replace hr := (if_neg hc3).symm.trans hr
          refine lv_aload_n hx hb dM_copyOne_18 rfl (lv_at hl 0 rfl) ?_
          refine lv_iload_n hx hb dM_copyOne_19 rfl (lv_at hl 1 rfl) ?_
          obtain ⟨q4, hq5, hr⟩ := Option.bind_eq_some_iff.mp hr
          refine tp_kP (rest := []) S hK hP hD rfl rfl (cM_howMany l D h a cI cZ _ σ2 x1 q4 hq5) (cwV 1 hTB tp_gM_howMany rfl rfl rfl ⟨rfl, by decide, by decide, by decide +kernel⟩ ⟨Nat.le_of_ble_eq_true rfl, Nat.le_of_ble_eq_true rfl⟩) rfl hl.1 rfl (Nat.le_of_ble_eq_true rfl) dM_copyOne_20 ⟨Nat.zero_le _, Nat.zero_le _⟩ ?_
          refine lv_iconst (v := 1) hx hb dM_copyOne_23 (by decide) ?_
          refine lv_icmp_ne (tgt := 56) hx hb dM_copyOne_24 (by decide) (fun hc6 => ?_) (fun hc6 => ?_)
          · replace hr := (if_neg hc6).symm.trans hr
            refine lv_iinc (k := 1) (v := (x1 + 1)) hx hb dM_copyOne_56 hl rfl (tp_ii1 _) (by decide) rfl (fun ls hl => ?_)
            have hl : lv_has ls 3 [(1, .int (x1 + 1)), (0, .ref h)] := hl
            refine lv_goto (tgt := 2) hx hb dM_copyOne_59 (by decide) ?_
            exact ih2 (x1 + 1) σ2 H locs ls hr (lv_sub hl [1, 0] rfl) hP hD hS
          · replace hr := (if_pos hc6).symm.trans hr
            refine lv_aload_n hx hb dM_copyOne_27 rfl (lv_at hl 0 rfl) ?_
            refine lv_iconst (v := (-1)) hx hb dM_copyOne_28 (by decide) ?_
            refine lv_iload_n hx hb dM_copyOne_29 rfl (lv_at hl 1 rfl) ?_
            obtain ⟨q7, hq8, hr⟩ := Option.bind_eq_some_iff.mp hr
            refine tp_kP (rest := []) S hK hP hD rfl rfl (cM_emptiest l D h a cI cZ _ σ2 (-1) x1 q7 hq8) (cwV 2 hTB tp_gM_emptiest rfl rfl rfl ⟨rfl, by decide, by decide, by decide +kernel⟩ ⟨Nat.le_of_ble_eq_true rfl, Nat.le_of_ble_eq_true rfl⟩) rfl hl.1 rfl (Nat.le_of_ble_eq_true rfl) dM_copyOne_30 ⟨Nat.zero_le _, Nat.zero_le _⟩ ?_
            refine lv_istore_n hx hb dM_copyOne_33 rfl hl (by decide) rfl (fun ls hl => ?_)
            have hl : lv_has ls 3 [(2, .int q7), (0, .ref h), (1, .int x1)] := hl
            refine lv_iload_n hx hb dM_copyOne_34 rfl (lv_at hl 0 rfl) ?_
            refine lv_if_lt (tgt := 56) hx hb dM_copyOne_35 (by decide) (fun hc9 => ?_) (fun hc9 => ?_)
            · replace hr := (if_pos hc9).symm.trans hr
              refine lv_iinc (k := 2) (v := (x1 + 1)) hx hb dM_copyOne_56 hl rfl (tp_ii1 _) (by decide) rfl (fun ls hl => ?_)
              have hl : lv_has ls 3 [(1, .int (x1 + 1)), (2, .int q7), (0, .ref h)] := hl
              refine lv_goto (tgt := 2) hx hb dM_copyOne_59 (by decide) ?_
              exact ih2 (x1 + 1) σ2 H locs ls hr (lv_sub hl [2, 0] rfl) hP hD hS
            · replace hr := (if_neg hc9).symm.trans hr
              refine lv_aload_n hx hb dM_copyOne_38 rfl (lv_at hl 1 rfl) ?_
              refine tp_gtM S hK hP 4 (by decide) (v := .ref (a 4)) tp_mM_f4 rfl dM_copyOne_39 ?_
              refine lv_iload_n hx hb dM_copyOne_42 rfl (lv_at hl 2 rfl) ?_
              refine lv_aload_n hx hb dM_copyOne_43 rfl (lv_at hl 1 rfl) ?_
              refine tp_gtM S hK hP 4 (by decide) (v := .ref (a 4)) tp_mM_f4 rfl dM_copyOne_44 ?_
              refine lv_iload_n hx hb dM_copyOne_47 rfl (lv_at hl 2 rfl) ?_
              refine va_iald hx hb hK hP 4 0 rfl rfl hb2 dM_copyOne_48 ?_
              refine lv_iconst (v := 1) hx hb dM_copyOne_49 (by decide) ?_
              refine lv_iload_n hx hb dM_copyOne_50 rfl (lv_at hl 0 rfl) ?_
              refine lv_ishl hx hb dM_copyOne_51 ?_
              refine lv_iadd hx hb dM_copyOne_52 ?_
              refine tp_asM4 S hK hP hD hS hb2 dM_copyOne_53 (fun H locs hP hD hS => ?_)
              refine lv_iconst (v := 1) hx hb dM_copyOne_54 (by decide) ?_
              obtain rfl := Option.some.inj hr
              exact W.zret (v := 1) hx hb hrt (by decide) (fun t ht _ => ⟨rfl, by rw [ht]; exact hP, hS.F ht⟩) hS.2.2 dM_copyOne_55 hlocks
  exact loop2 401 0 σ _ _ ls hr (lv_sub hl [1, 0] rfl) hP hD hS
set_option maxHeartbeats 4000000 in
set_option maxRecDepth 100000 in
theorem cM_roomFor (l : Launch) (D : va_G) (h : Nat) (a : Nat → Nat) (cI cZ : ClassId) (sz : Nat) (σ : tp_St) (x1 : Int32) (x2 : Int32) (r : (Int32 × tp_St)) (hr : fM_roomFor σ x1 x2 = some r) : Met l tp_yM_roomFor (tp_wsT tp_yM_roomFor tp_bM_roomFor 4 (some .boolean)) { frames := 3, cells := 0, slots := 0, locals := 66 } (tp_PcW D [(cI, .int), (cZ, .boolean)] (tp_wM h a cI cZ σ) sz [.ref h, .int x1, .int x2]) (tp_qW (some (.int r.1)) D (tp_wM h a cI cZ r.2) (va_A (tp_wM h a cI cZ σ) sz)) 0 0 (va_A (tp_wM h a cI cZ σ) sz) := by
  refine Met.ofW (cc := tp_bM_roomFor) (maxL := 4) (ret := (some .boolean)) (by decide) rfl ?_
  intro p e s m args below meth c s₁ B hml hv
  obtain ⟨rfl, hsz, hP, hK, hD0⟩ := hv
  have hx := B.exec
  have hb := B.bytes
  have hrt := B.returns
  have hTB : ∀ w ∈ tp_TB, w.before _ s = true := fun w z => atoms_spec (ws := (tp_wsT tp_yM_roomFor tp_bM_roomFor 4 (some .boolean))) B.pre w (List.mem_cons_of_mem _ z)
  have hown : s.vm.findClass tp_RM = some m.cls := findClass_of_methodNamed B.named
  have hlocks := B.notSynchronized
  have S : CallFix p m c tp_bM_roomFor 4 s _ tp_TB tp_RM := ⟨hx, hb, hml, hown, hTB⟩
  subst hsz
  have hD : va_D (va_A (tp_wM h a cI cZ σ) s.heap.size) (tp_wM h a cI cZ σ) := hD0.self
  have hA : ∀ q : Nat, s.heap.size ≤ q → va_A (tp_wM h a cI cZ σ) s.heap.size q := fun q z => Or.inr z
  have hS : va_S (va_A (tp_wM h a cI cZ σ) s.heap.size) s.heap s.heap [] := va_S.rf
  have hl := lv_entry ([.ref h, .int x1, .int x2]) (n := 4) (Nat.le_of_ble_eq_true rfl)
  rw [lg_entry_eq]
  generalize (lg_sl ([.ref h, .int x1, .int x2]) ++ List.replicate (4 - (lg_sl ([.ref h, .int x1, .int x2])).length) Slot.unset).toArray = ls at hl ⊢
  have hl : lv_has ls 4 [(0, .ref h), (1, .int x1), (2, .int x2)] := hl
  rw [fM_roomFor] at hr
  refine lv_iconst (v := 0) hx hb dM_roomFor_0 (by decide) ?_
  refine lv_istore_n hx hb dM_roomFor_1 rfl hl (by decide) rfl (fun ls hl => ?_)
  have hl : lv_has ls 4 [(3, .int 0), (0, .ref h), (1, .int x1), (2, .int x2)] := hl
  have loop2 : ∀ (n2 : Nat) (x3 : Int32) (σ2 : tp_St) (H : Heap) (locs : List Loc) (ls : Array Slot), fM_roomFor_L2 x1 x2 n2 x3 σ2 = some r → lv_has ls 4 [(0, .ref h), (1, .int x1), (2, .int x2), (3, .int x3)] → va_P D tp_CL (tp_wM h a cI cZ σ2) H → va_D (va_A (tp_wM h a cI cZ σ) s.heap.size) (tp_wM h a cI cZ σ2) → va_S (va_A (tp_wM h a cI cZ σ) s.heap.size) s.heap H locs → W p l e { frames := 3, cells := 0, slots := 0, locals := 66 } s m (([.ref h, .int x1, .int x2] : List Value).toArray) below meth c H locs 0 0 (MQ below (tp_qW (some (.int r.1)) D (tp_wM h a cI cZ r.2) (va_A (tp_wM h a cI cZ σ) s.heap.size)) (([.ref h, .int x1, .int x2] : List Value).toArray) s 0 0 (va_A (tp_wM h a cI cZ σ) s.heap.size)) (F0 m 2 ls []) := by
    intro n2
    induction n2 with
    | zero => intro x3 σ2 H locs ls hr hl hP hD hS; exact nomatch (show (none : Option (Int32 × tp_St)) = some r from hr)
    | succ n2 ih2 =>
      intro x3 σ2 H locs ls hr hl hP hD hS
      rw [fM_roomFor_L2] at hr
      refine lv_iload_n hx hb dM_roomFor_2 rfl (lv_at hl 3 rfl) ?_
      refine lv_bipush (v := 12) hx hb dM_roomFor_3 (by decide) ?_
      refine lv_icmp_ge (tgt := 54) hx hb dM_roomFor_5 (by decide) (fun hc1 => ?_) (fun hc1 => ?_)
      · replace hr := (if_pos hc1).symm.trans hr
        refine lv_iconst (v := 0) hx hb dM_roomFor_54 (by decide) ?_
        obtain rfl := Option.some.inj hr
        exact W.zret (v := 0) hx hb hrt (by decide) (fun t ht _ => ⟨rfl, by rw [ht]; exact hP, hS.F ht⟩) hS.2.2 dM_roomFor_55 hlocks
      · replace hr := (if_neg hc1).symm.trans hr
        refine lv_iload_n hx hb dM_roomFor_8 rfl (lv_at hl 3 rfl) ?_
        refine lv_iload_n hx hb dM_roomFor_9 rfl (lv_at hl 2 rfl) ?_
        refine lv_icmp_eq (tgt := 48) hx hb dM_roomFor_10 (by decide) (fun hc2 => ?_) (fun hc2 => ?_)
        · replace hr := (if_pos hc2).symm.trans hr
          refine lv_iinc (k := 3) (v := (x3 + 1)) hx hb dM_roomFor_48 hl rfl (tp_ii1 _) (by decide) rfl (fun ls hl => ?_)
          have hl : lv_has ls 4 [(3, .int (x3 + 1)), (0, .ref h), (1, .int x1), (2, .int x2)] := hl
          refine lv_goto (tgt := 2) hx hb dM_roomFor_51 (by decide) ?_
          exact ih2 (x3 + 1) σ2 H locs ls hr (lv_sub hl [1, 2, 3, 0] rfl) hP hD hS
        · replace hr := (if_neg hc2).symm.trans hr
          refine lv_aload_n hx hb dM_roomFor_13 rfl (lv_at hl 0 rfl) ?_
          refine lv_iload_n hx hb dM_roomFor_14 rfl (lv_at hl 1 rfl) ?_
          refine lv_iload_n hx hb dM_roomFor_15 rfl (lv_at hl 3 rfl) ?_
          obtain ⟨q3, hq4, hr⟩ := Option.bind_eq_some_iff.mp hr
          refine tp_kP (rest := []) S hK hP hD rfl rfl (cM_isOn l D h a cI cZ _ σ2 x1 x3 q3 hq4) (cwV 2 hTB tp_gM_isOn rfl rfl rfl ⟨rfl, by decide, by decide, by decide +kernel⟩ ⟨Nat.le_of_ble_eq_true rfl, Nat.le_of_ble_eq_true rfl⟩) rfl hl.1 rfl (Nat.le_of_ble_eq_true rfl) dM_roomFor_16 ⟨Nat.zero_le _, Nat.zero_le _⟩ ?_
          refine lv_if_eq (tgt := 48) hx hb dM_roomFor_19 (by decide) (fun hc5 => ?_) (fun hc5 => ?_)
          · replace hr := (if_pos hc5).symm.trans hr
            refine lv_iinc (k := 3) (v := (x3 + 1)) hx hb dM_roomFor_48 hl rfl (tp_ii1 _) (by decide) rfl (fun ls hl => ?_)
            have hl : lv_has ls 4 [(3, .int (x3 + 1)), (0, .ref h), (1, .int x1), (2, .int x2)] := hl
            refine lv_goto (tgt := 2) hx hb dM_roomFor_51 (by decide) ?_
            exact ih2 (x3 + 1) σ2 H locs ls hr (lv_sub hl [1, 2, 3, 0] rfl) hP hD hS
          · replace hr := (if_neg hc5).symm.trans hr
            refine lv_aload_n hx hb dM_roomFor_22 rfl (lv_at hl 0 rfl) ?_
            refine lv_iload_n hx hb dM_roomFor_23 rfl (lv_at hl 3 rfl) ?_
            obtain ⟨q6, hq7, hr⟩ := Option.bind_eq_some_iff.mp hr
            refine tp_kP (rest := []) S hK hP hD rfl rfl (cM_stays l D h a cI cZ _ σ2 x3 q6 hq7) (cwV 1 hTB tp_gM_stays rfl rfl rfl ⟨rfl, by decide, by decide, by decide +kernel⟩ ⟨Nat.le_of_ble_eq_true rfl, Nat.le_of_ble_eq_true rfl⟩) rfl hl.1 rfl (Nat.le_of_ble_eq_true rfl) dM_roomFor_24 ⟨Nat.zero_le _, Nat.zero_le _⟩ ?_
            refine lv_if_eq (tgt := 48) hx hb dM_roomFor_27 (by decide) (fun hc8 => ?_) (fun hc8 => ?_)
            · replace hr := (if_pos hc8).symm.trans hr
              refine lv_iinc (k := 3) (v := (x3 + 1)) hx hb dM_roomFor_48 hl rfl (tp_ii1 _) (by decide) rfl (fun ls hl => ?_)
              have hl : lv_has ls 4 [(3, .int (x3 + 1)), (0, .ref h), (1, .int x1), (2, .int x2)] := hl
              refine lv_goto (tgt := 2) hx hb dM_roomFor_51 (by decide) ?_
              exact ih2 (x3 + 1) σ2 H locs ls hr (lv_sub hl [1, 2, 3, 0] rfl) hP hD hS
            · replace hr := (if_neg hc8).symm.trans hr
              refine lv_aload_n hx hb dM_roomFor_30 rfl (lv_at hl 0 rfl) ?_
              refine lv_iload_n hx hb dM_roomFor_31 rfl (lv_at hl 3 rfl) ?_
              obtain ⟨q9, hq10, hr⟩ := Option.bind_eq_some_iff.mp hr
              refine tp_kP (rest := []) S hK hP hD rfl rfl (cM_freeOn l D h a cI cZ _ σ2 x3 q9 hq10) (cwV 1 hTB tp_gM_freeOn rfl rfl rfl ⟨rfl, by decide, by decide, by decide +kernel⟩ ⟨Nat.le_of_ble_eq_true rfl, Nat.le_of_ble_eq_true rfl⟩) rfl hl.1 rfl (Nat.le_of_ble_eq_true rfl) dM_roomFor_32 ⟨Nat.zero_le _, Nat.zero_le _⟩ ?_
              refine lv_if_le (tgt := 48) hx hb dM_roomFor_35 (by decide) (fun hc11 => ?_) (fun hc11 => ?_)
              · replace hr := (if_pos hc11).symm.trans hr
                refine lv_iinc (k := 3) (v := (x3 + 1)) hx hb dM_roomFor_48 hl rfl (tp_ii1 _) (by decide) rfl (fun ls hl => ?_)
                have hl : lv_has ls 4 [(3, .int (x3 + 1)), (0, .ref h), (1, .int x1), (2, .int x2)] := hl
                refine lv_goto (tgt := 2) hx hb dM_roomFor_51 (by decide) ?_
                exact ih2 (x3 + 1) σ2 H locs ls hr (lv_sub hl [1, 2, 3, 0] rfl) hP hD hS
              · replace hr := (if_neg hc11).symm.trans hr
                refine lv_aload_n hx hb dM_roomFor_38 rfl (lv_at hl 0 rfl) ?_
                refine lv_iload_n hx hb dM_roomFor_39 rfl (lv_at hl 3 rfl) ?_
                obtain ⟨q12, hq13, hr⟩ := Option.bind_eq_some_iff.mp hr
                refine tp_kV (rest := []) S hK hP hD hS hA rfl rfl (cM_makeRoom l D h a cI cZ _ σ2 x3 q12 hq13) (cwV 1 hTB tp_gM_makeRoom rfl rfl rfl ⟨rfl, by decide, by decide, by decide +kernel⟩ ⟨Nat.le_of_ble_eq_true rfl, Nat.le_of_ble_eq_true rfl⟩) rfl hl.1 rfl (Nat.le_of_ble_eq_true rfl) dM_roomFor_40 ⟨Nat.zero_le _, Nat.zero_le _⟩ (fun H locs hP hS => ?_)
                have hP : va_P D tp_CL (tp_wM h a cI cZ q12.2) H := hP
                have hD : va_D (va_A (tp_wM h a cI cZ σ) s.heap.size) (tp_wM h a cI cZ q12.2) := tp_dre hD tp_wM_fst
                refine lv_if_lt (tgt := 48) hx hb dM_roomFor_43 (by decide) (fun hc14 => ?_) (fun hc14 => ?_)
                · replace hr := (if_pos hc14).symm.trans hr
                  refine lv_iinc (k := 3) (v := (x3 + 1)) hx hb dM_roomFor_48 hl rfl (tp_ii1 _) (by decide) rfl (fun ls hl => ?_)
                  have hl : lv_has ls 4 [(3, .int (x3 + 1)), (0, .ref h), (1, .int x1), (2, .int x2)] := hl
                  refine lv_goto (tgt := 2) hx hb dM_roomFor_51 (by decide) ?_
                  exact ih2 (x3 + 1) q12.2 H locs ls hr (lv_sub hl [1, 2, 3, 0] rfl) hP hD hS
                · replace hr := (if_neg hc14).symm.trans hr
                  refine lv_iconst (v := 1) hx hb dM_roomFor_46 (by decide) ?_
                  obtain rfl := Option.some.inj hr
                  exact W.zret (v := 1) hx hb hrt (by decide) (fun t ht _ => ⟨rfl, by rw [ht]; exact hP, hS.F ht⟩) hS.2.2 dM_roomFor_47 hlocks
  exact loop2 13 0 σ _ _ ls hr (lv_sub hl [1, 2, 3, 0] rfl) hP hD hS
set_option maxHeartbeats 4000000 in
set_option maxRecDepth 100000 in
theorem cM_roomForOne (l : Launch) (D : va_G) (h : Nat) (a : Nat → Nat) (cI cZ : ClassId) (sz : Nat) (σ : tp_St) (r : (Int32 × tp_St)) (hr : fM_roomForOne σ = some r) : Met l tp_yM_roomForOne (tp_wsT tp_yM_roomForOne tp_bM_roomForOne 2 (some .boolean)) { frames := 4, cells := 0, slots := 0, locals := 89 } (tp_PcW D [(cI, .int), (cZ, .boolean)] (tp_wM h a cI cZ σ) sz [.ref h]) (tp_qW (some (.int r.1)) D (tp_wM h a cI cZ r.2) (va_A (tp_wM h a cI cZ σ) sz)) 0 0 (va_A (tp_wM h a cI cZ σ) sz) := by
  refine Met.ofW (cc := tp_bM_roomForOne) (maxL := 2) (ret := (some .boolean)) (by decide) rfl ?_
  intro p e s m args below meth c s₁ B hml hv
  obtain ⟨rfl, hsz, hP, hK, hD0⟩ := hv
  have hx := B.exec
  have hb := B.bytes
  have hrt := B.returns
  have hTB : ∀ w ∈ tp_TB, w.before _ s = true := fun w z => atoms_spec (ws := (tp_wsT tp_yM_roomForOne tp_bM_roomForOne 2 (some .boolean))) B.pre w (List.mem_cons_of_mem _ z)
  have hown : s.vm.findClass tp_RM = some m.cls := findClass_of_methodNamed B.named
  have hlocks := B.notSynchronized
  have S : CallFix p m c tp_bM_roomForOne 2 s _ tp_TB tp_RM := ⟨hx, hb, hml, hown, hTB⟩
  subst hsz
  have hD : va_D (va_A (tp_wM h a cI cZ σ) s.heap.size) (tp_wM h a cI cZ σ) := hD0.self
  have hA : ∀ q : Nat, s.heap.size ≤ q → va_A (tp_wM h a cI cZ σ) s.heap.size q := fun q z => Or.inr z
  have hS : va_S (va_A (tp_wM h a cI cZ σ) s.heap.size) s.heap s.heap [] := va_S.rf
  have hl := lv_entry ([.ref h]) (n := 2) (Nat.le_of_ble_eq_true rfl)
  rw [lg_entry_eq]
  generalize (lg_sl ([.ref h]) ++ List.replicate (2 - (lg_sl ([.ref h])).length) Slot.unset).toArray = ls at hl ⊢
  have hl : lv_has ls 2 [(0, .ref h)] := hl
  rw [fM_roomForOne] at hr
  refine lv_iconst (v := 0) hx hb dM_roomForOne_0 (by decide) ?_
  refine lv_istore_n hx hb dM_roomForOne_1 rfl hl (by decide) rfl (fun ls hl => ?_)
  have hl : lv_has ls 2 [(1, .int 0), (0, .ref h)] := hl
  have loop2 : ∀ (n2 : Nat) (x1 : Int32) (σ2 : tp_St) (H : Heap) (locs : List Loc) (ls : Array Slot), fM_roomForOne_L2  n2 x1 σ2 = some r → lv_has ls 2 [(0, .ref h), (1, .int x1)] → va_P D tp_CL (tp_wM h a cI cZ σ2) H → va_D (va_A (tp_wM h a cI cZ σ) s.heap.size) (tp_wM h a cI cZ σ2) → va_S (va_A (tp_wM h a cI cZ σ) s.heap.size) s.heap H locs → W p l e { frames := 4, cells := 0, slots := 0, locals := 89 } s m (([.ref h] : List Value).toArray) below meth c H locs 0 0 (MQ below (tp_qW (some (.int r.1)) D (tp_wM h a cI cZ r.2) (va_A (tp_wM h a cI cZ σ) s.heap.size)) (([.ref h] : List Value).toArray) s 0 0 (va_A (tp_wM h a cI cZ σ) s.heap.size)) (F0 m 2 ls []) := by
    intro n2
    induction n2 with
    | zero => intro x1 σ2 H locs ls hr hl hP hD hS; exact nomatch (show (none : Option (Int32 × tp_St)) = some r from hr)
    | succ n2 ih2 =>
      intro x1 σ2 H locs ls hr hl hP hD hS
      rw [fM_roomForOne_L2] at hr
      refine lv_iload_n hx hb dM_roomForOne_2 rfl (lv_at hl 1 rfl) ?_
      refine lv_sipush (v := 400) hx hb dM_roomForOne_3 (by decide) ?_
      refine lv_icmp_ge (tgt := 44) hx hb dM_roomForOne_6 (by decide) (fun hc1 => ?_) (fun hc1 => ?_)
      · replace hr := (if_pos hc1).symm.trans hr
        refine lv_iconst (v := 0) hx hb dM_roomForOne_44 (by decide) ?_
        obtain rfl := Option.some.inj hr
        exact W.zret (v := 0) hx hb hrt (by decide) (fun t ht _ => ⟨rfl, by rw [ht]; exact hP, hS.F ht⟩) hS.2.2 dM_roomForOne_45 hlocks
      · replace hr := (if_neg hc1).symm.trans hr
        refine lv_aload_n hx hb dM_roomForOne_9 rfl (lv_at hl 0 rfl) ?_
        refine tp_gtM S hK hP 3 (by decide) (v := .ref (a 3)) tp_mM_f3 rfl dM_roomForOne_10 ?_
        refine lv_iload_n hx hb dM_roomForOne_13 rfl (lv_at hl 1 rfl) ?_
        by_cases hb2 : tp_oob x1 400
        · exact nomatch ((if_pos hb2).symm.trans hr)
        replace hr := (if_neg hb2).symm.trans hr
        refine va_zald hx hb hK hP 3 1 rfl rfl hb2 dM_roomForOne_14 ?_
        refine lv_if_eq (tgt := 38) hx hb dM_roomForOne_15 (by decide) (fun hc3 => ?_) (fun hc3 => ?_)
        · replace hr := (if_pos hc3).symm.trans hr
          refine lv_iinc (k := 1) (v := (x1 + 1)) hx hb dM_roomForOne_38 hl rfl (tp_ii1 _) (by decide) rfl (fun ls hl => ?_)
          have hl : lv_has ls 2 [(1, .int (x1 + 1)), (0, .ref h)] := hl
          refine lv_goto (tgt := 2) hx hb dM_roomForOne_41 (by decide) ?_
          exact ih2 (x1 + 1) σ2 H locs ls hr (lv_sub hl [1, 0] rfl) hP hD hS
        · replace hr := (if_neg hc3).symm.trans hr
          refine lv_aload_n hx hb dM_roomForOne_18 rfl (lv_at hl 0 rfl) ?_
          refine lv_iload_n hx hb dM_roomForOne_19 rfl (lv_at hl 1 rfl) ?_
          obtain ⟨q4, hq5, hr⟩ := Option.bind_eq_some_iff.mp hr
          refine tp_kP (rest := []) S hK hP hD rfl rfl (cM_howMany l D h a cI cZ _ σ2 x1 q4 hq5) (cwV 1 hTB tp_gM_howMany rfl rfl rfl ⟨rfl, by decide, by decide, by decide +kernel⟩ ⟨Nat.le_of_ble_eq_true rfl, Nat.le_of_ble_eq_true rfl⟩) rfl hl.1 rfl (Nat.le_of_ble_eq_true rfl) dM_roomForOne_20 ⟨Nat.zero_le _, Nat.zero_le _⟩ ?_
          refine lv_iconst (v := 1) hx hb dM_roomForOne_23 (by decide) ?_
          refine lv_icmp_ne (tgt := 38) hx hb dM_roomForOne_24 (by decide) (fun hc6 => ?_) (fun hc6 => ?_)
          · replace hr := (if_neg hc6).symm.trans hr
            refine lv_iinc (k := 1) (v := (x1 + 1)) hx hb dM_roomForOne_38 hl rfl (tp_ii1 _) (by decide) rfl (fun ls hl => ?_)
            have hl : lv_has ls 2 [(1, .int (x1 + 1)), (0, .ref h)] := hl
            refine lv_goto (tgt := 2) hx hb dM_roomForOne_41 (by decide) ?_
            exact ih2 (x1 + 1) σ2 H locs ls hr (lv_sub hl [1, 0] rfl) hP hD hS
          · replace hr := (if_pos hc6).symm.trans hr
            refine lv_aload_n hx hb dM_roomForOne_27 rfl (lv_at hl 0 rfl) ?_
            refine lv_iload_n hx hb dM_roomForOne_28 rfl (lv_at hl 1 rfl) ?_
            refine lv_iconst (v := (-1)) hx hb dM_roomForOne_29 (by decide) ?_
            obtain ⟨q7, hq8, hr⟩ := Option.bind_eq_some_iff.mp hr
            refine tp_kV (rest := []) S hK hP hD hS hA rfl rfl (cM_roomFor l D h a cI cZ _ σ2 x1 (-1) q7 hq8) (cwV 2 hTB tp_gM_roomFor rfl rfl rfl ⟨rfl, by decide, by decide, by decide +kernel⟩ ⟨Nat.le_of_ble_eq_true rfl, Nat.le_of_ble_eq_true rfl⟩) rfl hl.1 rfl (Nat.le_of_ble_eq_true rfl) dM_roomForOne_30 ⟨Nat.zero_le _, Nat.zero_le _⟩ (fun H locs hP hS => ?_)
            have hP : va_P D tp_CL (tp_wM h a cI cZ q7.2) H := hP
            have hD : va_D (va_A (tp_wM h a cI cZ σ) s.heap.size) (tp_wM h a cI cZ q7.2) := tp_dre hD tp_wM_fst
            refine lv_if_eq (tgt := 38) hx hb dM_roomForOne_33 (by decide) (fun hc9 => ?_) (fun hc9 => ?_)
            · replace hr := (if_pos hc9).symm.trans hr
              refine lv_iinc (k := 1) (v := (x1 + 1)) hx hb dM_roomForOne_38 hl rfl (tp_ii1 _) (by decide) rfl (fun ls hl => ?_)
              have hl : lv_has ls 2 [(1, .int (x1 + 1)), (0, .ref h)] := hl
              refine lv_goto (tgt := 2) hx hb dM_roomForOne_41 (by decide) ?_
              exact ih2 (x1 + 1) q7.2 H locs ls hr (lv_sub hl [1, 0] rfl) hP hD hS
            · replace hr := (if_neg hc9).symm.trans hr
              refine lv_iconst (v := 1) hx hb dM_roomForOne_36 (by decide) ?_
              obtain rfl := Option.some.inj hr
              exact W.zret (v := 1) hx hb hrt (by decide) (fun t ht _ => ⟨rfl, by rw [ht]; exact hP, hS.F ht⟩) hS.2.2 dM_roomForOne_37 hlocks
  exact loop2 401 0 σ _ _ ls hr (lv_sub hl [1, 0] rfl) hP hD hS
