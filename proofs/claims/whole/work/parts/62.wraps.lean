def tp_qLo (D : va_G) (h : Nat) (a : Nat → Nat) (cI cZ : ClassId) (o : Nat) (cJ : ClassId) (mp : Nat → Nat) (r : Nat × Int32 × tp_St) (A : Nat → Prop) : Array Value → State → Outcome → State → Prop := fun _ st oc t => ∃ f' : Nat → Int64, oc = .returned (some (.int (tp_nI (mp r.1)))) ∧ (r.1 = 0 → f' 0 = r.2.1.toInt64) ∧ va_P D tp_CL ((o, .inl (cJ, 1, .inr (.inl f'))) :: tp_wC h a cI cZ r.2.2) t.heap ∧ va_F A st t
def tp_qLn (D : va_G) (h : Nat) (a : Nat → Nat) (cI cZ : ClassId) (mp : Nat → Nat) (r : Nat × Int32 × tp_St) (A : Nat → Prop) : Array Value → State → Outcome → State → Prop := fun _ st oc t => oc = .returned (some (.int (tp_nI (mp r.1)))) ∧ va_P D tp_CL (tp_wC h a cI cZ r.2.2) t.heap ∧ va_F A st t
theorem tp_vin0 : vp_in 0 1 := fun z => z.elim (by decide) (by decide)
theorem tp_ng_cast (k : Nat) (hk : Cond.castable (tp_xN k) (tp_xN k) ∈ tp_NGl) {A : Nat → Prop} {s : State} {args : Array Value} (hX : tp_xZ A s) : (Cond.castable (tp_xN k) (tp_xN k)).before args s = true := tp_ng_moved (Vm.Alike.refl s.vm) hX.2.2.1 _ hk
theorem tp_kL_13 : Cond.classLink tp_RL 13 (tp_xN 1) ∈ tp_TB := tp_TB_1 (by decide +kernel)
theorem tp_kL_15 : Cond.classLink tp_RL 15 (tp_xN 2) ∈ tp_TB := tp_TB_1 (by decide +kernel)
theorem tp_kL_17 : Cond.classLink tp_RL 17 (tp_xN 3) ∈ tp_TB := tp_TB_1 (by decide +kernel)
theorem tp_kL_23 : Cond.classLink tp_RL 23 (tp_xN 4) ∈ tp_TB := tp_TB_1 (by decide +kernel)
def tp_hhL_disk : List (Nat × Nat × Nat × Nat) := [(0, 6, 9, 13), (0, 6, 12, 15), (0, 6, 15, 17)]
set_option maxHeartbeats 4000000 in
set_option maxRecDepth 100000 in
theorem cL_disk (l : Launch) (hl0 : l.stackTraces = false) (D : va_G) (h : Nat) (a : Nat → Nat) (cI cZ : ClassId) (sz : Nat) (σ : tp_St) (x1 : Int32) (x2 : Int32) (r : Nat × Int32 × tp_St) (hr : fC_disk σ x1 x2 = some r) : Met l tp_yL_disk (.codeWith tp_yL_disk tp_bL_disk 4 (some .int) tp_hhL_disk :: tp_TB) { frames := 7, cells := 1, slots := 6, locals := 111 } (tp_PcX D [(cI, .int), (cZ, .boolean)] (tp_wC h a cI cZ σ) sz [.ref h, .int x1, .int x2]) (tp_qLn D h a cI cZ tp_mpI r (va_A (tp_wC h a cI cZ σ) sz)) 1 6 (va_A (tp_wC h a cI cZ σ) sz) := by
  refine va_MetW (cc := tp_bL_disk) (maxL := 4) (ret := (some .int)) (hh := tp_hhL_disk) (by decide) rfl ?_
  intro p e s m args below meth c s₁ B hml hv
  obtain ⟨rfl, hsz, hP, hK, hD0, hX⟩ := hv
  have hx := B.exec
  have hb := B.bytes
  have hrt := B.returns
  have hTB : ∀ w ∈ tp_TB, w.before _ s = true := fun w z => atoms_spec (ws := (.codeWith tp_yL_disk tp_bL_disk 4 (some .int) tp_hhL_disk :: tp_TB)) B.pre w (List.mem_cons_of_mem _ z)
  have htab : c.exceptionTable.toList = tableOf tp_hhL_disk := vx_table (x := tp_yL_disk) B (atoms_spec (ws := (.codeWith tp_yL_disk tp_bL_disk 4 (some .int) tp_hhL_disk :: tp_TB)) B.pre _ List.mem_cons_self)
  have hown : s.vm.findClass tp_RL = some m.cls := findClass_of_methodNamed B.named
  have hlocks := B.notSynchronized
  have S : CallFix p m c tp_bL_disk 4 s _ tp_TB tp_RL := ⟨hx, hb, hml, hown, hTB⟩
  subst hsz
  have hD : va_D (va_A (tp_wC h a cI cZ σ) s.heap.size) (tp_wC h a cI cZ σ) := hD0.self
  have hA : ∀ q : Nat, s.heap.size ≤ q → va_A (tp_wC h a cI cZ σ) s.heap.size q := fun q z => Or.inr z
  have hS : va_S (va_A (tp_wC h a cI cZ σ) s.heap.size) s.heap s.heap [] := va_S.rf
  have hl := lv_entry ([.ref h, .int x1, .int x2]) (n := 4) (Nat.le_of_ble_eq_true rfl)
  rw [lg_entry_eq]
  generalize (lg_sl ([.ref h, .int x1, .int x2]) ++ List.replicate (4 - (lg_sl ([.ref h, .int x1, .int x2])).length) Slot.unset).toArray = ls at hl ⊢
  have hl : lv_has ls 4 [(0, .ref h), (1, .int x1), (2, .int x2)] := hl
  refine lv_aload_n hx hb dL_disk_0 rfl (lv_at hl 0 rfl) ?_
  refine lv_iload_n hx hb dL_disk_1 rfl (lv_at hl 1 rfl) ?_
  refine lv_iload_n hx hb dL_disk_2 rfl (lv_at hl 2 rfl) ?_
  refine tp_kXN (wr := []) (xs := [.int x1, .int x2]) (rest := []) S (hK.sub (tys' := [(cI, .int), (cZ, .boolean)]) [0, 1] rfl) hX hP hD hS hA [0, 1, 2, 3, 4, 5, 6, 7] [] rfl rfl rfl (by decide) (by decide) (by decide) (cC_disk l hl0 D h a cI cZ _ σ x1 x2 r hr) (cwV 2 hTB tp_gL_C_disk rfl rfl rfl ⟨rfl, by decide, by decide, by decide +kernel⟩ ⟨Nat.le_of_ble_eq_true rfl, Nat.le_of_ble_eq_true rfl⟩) rfl hl.1 rfl (Nat.le_of_ble_eq_true rfl) dL_disk_3 ⟨Nat.le_of_ble_eq_true rfl, Nat.le_of_ble_eq_true rfl⟩ (fun k σ' ce q9 H locs hk er hP hD hS hce hcv hcl => ?_) (fun σ' H locs er hP hD hS => ?_)
  · subst er
    have hP : va_P D tp_CL (tp_wC h a cI cZ (σ')) H := hP
    have hk : k = 1 ∨ k = 2 ∨ k = 3 := by simpa using hk
    rcases hk with rfl | rfl | rfl
    · refine vx_catch (own := tp_RL) (name := tp_xN 1) hown [] (⟨0, 6, 9, 13⟩ : ExceptionTableEntry) [(⟨0, 6, 12, 15⟩ : ExceptionTableEntry), (⟨0, 6, 15, 17⟩ : ExceptionTableEntry)] htab (fun z hz => nomatch hz) (by decide) (by decide) (hTB _ tp_kL_13) (tp_ng_cast 1 (by decide) hX) hce hcv hcl ?_
      refine lv_astore_n hx hb dL_disk_9 rfl hl (by decide) rfl (fun ls hl => ?_)
      refine lv_iconst (v := 1) hx hb dL_disk_10 (by decide) ?_
      exact W.iret (v := 1) hx hb hrt (fun t ht _ => ⟨rfl, by rw [ht]; exact hP, hS.F ht⟩) hS.2.2 dL_disk_11 hlocks
    · refine vx_catch (own := tp_RL) (name := tp_xN 2) hown [(⟨0, 6, 9, 13⟩ : ExceptionTableEntry)] (⟨0, 6, 12, 15⟩ : ExceptionTableEntry) [(⟨0, 6, 15, 17⟩ : ExceptionTableEntry)] htab (fun z hz => by cases List.mem_singleton.mp hz; exact Or.inr ⟨by decide, tp_xN 1, hTB _ tp_kL_13, hX.2.2.2.1⟩) (by decide) (by decide) (hTB _ tp_kL_15) (tp_ng_cast 2 (by decide) hX) hce hcv hcl ?_
      refine lv_astore_n hx hb dL_disk_12 rfl hl (by decide) rfl (fun ls hl => ?_)
      refine lv_iconst (v := 2) hx hb dL_disk_13 (by decide) ?_
      exact W.iret (v := 2) hx hb hrt (fun t ht _ => ⟨rfl, by rw [ht]; exact hP, hS.F ht⟩) hS.2.2 dL_disk_14 hlocks
    · refine vx_catch (own := tp_RL) (name := tp_xN 3) hown [(⟨0, 6, 9, 13⟩ : ExceptionTableEntry), (⟨0, 6, 12, 15⟩ : ExceptionTableEntry)] (⟨0, 6, 15, 17⟩ : ExceptionTableEntry) [] htab (fun z hz => (List.mem_cons.mp hz).elim (fun e9 => by rw [e9]; exact Or.inr ⟨by decide, tp_xN 1, hTB _ tp_kL_13, hX.2.2.2.2.1⟩) (fun hz => by cases List.mem_singleton.mp hz; exact Or.inr ⟨by decide, tp_xN 2, hTB _ tp_kL_15, hX.2.2.2.2.2.1⟩)) (by decide) (by decide) (hTB _ tp_kL_17) (tp_ng_cast 3 (by decide) hX) hce hcv hcl ?_
      refine lv_astore_n hx hb dL_disk_15 rfl hl (by decide) rfl (fun ls hl => ?_)
      refine lv_iconst (v := 3) hx hb dL_disk_16 (by decide) ?_
      exact W.iret (v := 3) hx hb hrt (fun t ht _ => ⟨rfl, by rw [ht]; exact hP, hS.F ht⟩) hS.2.2 dL_disk_17 hlocks
  · subst er
    have hP : va_P D tp_CL (tp_wC h a cI cZ (σ')) H := hP
    have hD : va_D (va_A (tp_wC h a cI cZ σ) s.heap.size) (tp_wC h a cI cZ (σ')) := hD
    refine lv_goto (tgt := 18) hx hb dL_disk_6 (by decide) ?_
    refine lv_iconst (v := 0) hx hb dL_disk_18 (by decide) ?_
    exact W.iret (v := 0) hx hb hrt (fun t ht _ => ⟨rfl, by rw [ht]; exact hP, hS.F ht⟩) hS.2.2 dL_disk_19 hlocks
def tp_hhL_chunk : List (Nat × Nat × Nat × Nat) := [(0, 8, 11, 23)]
set_option maxHeartbeats 4000000 in
set_option maxRecDepth 100000 in
theorem cL_chunk (l : Launch) (hl0 : l.stackTraces = false) (D : va_G) (h : Nat) (a : Nat → Nat) (cI cZ cJ : ClassId) (o : Nat) (sz : Nat) (σ : tp_St) (f : Nat → Int64) (r : Nat × Int32 × tp_St) (hr : fC_chunk σ  = some r) : Met l tp_yL_chunk (.codeWith tp_yL_chunk tp_bL_chunk 3 (some .int) tp_hhL_chunk :: tp_TB) { frames := 7, cells := 1, slots := 6, locals := 134 } (tp_PcX D [(cI, .int), (cZ, .boolean), (cJ, .long)] ((o, .inl (cJ, 1, .inr (.inl f))) :: tp_wC h a cI cZ σ) sz [.ref h, .ref o]) (tp_qLo D h a cI cZ o cJ tp_mp1 r (va_A ((o, .inl (cJ, 1, .inr (.inl f))) :: tp_wC h a cI cZ σ) sz)) 1 6 (va_A ((o, .inl (cJ, 1, .inr (.inl f))) :: tp_wC h a cI cZ σ) sz) := by
  refine va_MetW (cc := tp_bL_chunk) (maxL := 3) (ret := (some .int)) (hh := tp_hhL_chunk) (by decide) rfl ?_
  intro p e s m args below meth c s₁ B hml hv
  obtain ⟨rfl, hsz, hP, hK, hD0, hX⟩ := hv
  have hx := B.exec
  have hb := B.bytes
  have hrt := B.returns
  have hTB : ∀ w ∈ tp_TB, w.before _ s = true := fun w z => atoms_spec (ws := (.codeWith tp_yL_chunk tp_bL_chunk 3 (some .int) tp_hhL_chunk :: tp_TB)) B.pre w (List.mem_cons_of_mem _ z)
  have htab : c.exceptionTable.toList = tableOf tp_hhL_chunk := vx_table (x := tp_yL_chunk) B (atoms_spec (ws := (.codeWith tp_yL_chunk tp_bL_chunk 3 (some .int) tp_hhL_chunk :: tp_TB)) B.pre _ List.mem_cons_self)
  have hown : s.vm.findClass tp_RL = some m.cls := findClass_of_methodNamed B.named
  have hlocks := B.notSynchronized
  have S : CallFix p m c tp_bL_chunk 3 s _ tp_TB tp_RL := ⟨hx, hb, hml, hown, hTB⟩
  subst hsz
  have hD : va_D (va_A ((o, .inl (cJ, 1, .inr (.inl f))) :: tp_wC h a cI cZ σ) s.heap.size) ((o, .inl (cJ, 1, .inr (.inl f))) :: tp_wC h a cI cZ σ) := hD0.self
  have hA : ∀ q : Nat, s.heap.size ≤ q → va_A ((o, .inl (cJ, 1, .inr (.inl f))) :: tp_wC h a cI cZ σ) s.heap.size q := fun q z => Or.inr z
  have hS : va_S (va_A ((o, .inl (cJ, 1, .inr (.inl f))) :: tp_wC h a cI cZ σ) s.heap.size) s.heap s.heap [] := va_S.rf
  have hl := lv_entry ([.ref h, .ref o]) (n := 3) (Nat.le_of_ble_eq_true rfl)
  rw [lg_entry_eq]
  generalize (lg_sl ([.ref h, .ref o]) ++ List.replicate (3 - (lg_sl ([.ref h, .ref o])).length) Slot.unset).toArray = ls at hl ⊢
  have hl : lv_has ls 3 [(0, .ref h), (1, .ref o)] := hl
  refine lv_aload_n hx hb dL_chunk_0 rfl (lv_at hl 1 rfl) ?_
  refine lv_iconst (v := 0) hx hb dL_chunk_1 (by decide) ?_
  refine lv_aload_n hx hb dL_chunk_2 rfl (lv_at hl 0 rfl) ?_
  refine tp_kXT (wr := [(o, .inl (cJ, 1, .inr (.inl f)))]) (xs := []) (rest := [.int 0, .ref o]) S (hK.sub (tys' := [(cI, .int), (cZ, .boolean)]) [0, 1] rfl) hX hP hD hS hA [1, 2, 3, 4, 5, 6, 7, 8] [0] rfl rfl rfl (by decide) (by decide) (by decide) (cC_chunk l hl0 D h a cI cZ _ σ  r hr) (cwV 0 hTB tp_gL_C_chunk rfl rfl rfl ⟨rfl, by decide, by decide, by decide +kernel⟩ ⟨Nat.le_of_ble_eq_true rfl, Nat.le_of_ble_eq_true rfl⟩) rfl hl.1 rfl (Nat.le_of_ble_eq_true rfl) dL_chunk_3 ⟨Nat.le_of_ble_eq_true rfl, Nat.le_of_ble_eq_true rfl⟩ (fun k σ' ce q9 H locs hk er hP hD hS hce hcv hcl => ?_) (fun v σ' H locs er hP hD hS => ?_)
  · subst er
    have hP : va_P D tp_CL ((o, .inl (cJ, 1, .inr (.inl f))) :: tp_wC h a cI cZ (σ')) H := hP
    have hk : k = 4 := by simpa using hk
    rcases hk with rfl
    · refine vx_catch (own := tp_RL) (name := tp_xN 4) hown [] (⟨0, 8, 11, 23⟩ : ExceptionTableEntry) [] htab (fun z hz => nomatch hz) (by decide) (by decide) (hTB _ tp_kL_23) (tp_ng_cast 4 (by decide) hX) hce hcv hcl ?_
      refine lv_astore_n hx hb dL_chunk_11 rfl hl (by decide) rfl (fun ls hl => ?_)
      refine lv_iconst (v := 1) hx hb dL_chunk_12 (by decide) ?_
      exact W.iret (v := 1) hx hb hrt (fun t ht _ => ⟨f, rfl, fun z9 => absurd z9 (show ¬ (4 : Nat) = 0 by decide), by rw [ht]; exact hP, hS.F ht⟩) hS.2.2 dL_chunk_13 hlocks
  · subst er
    have hP : va_P D tp_CL ((o, .inl (cJ, 1, .inr (.inl f))) :: tp_wC h a cI cZ (σ')) H := hP
    have hD : va_D (va_A ((o, .inl (cJ, 1, .inr (.inl f))) :: tp_wC h a cI cZ σ) s.heap.size) ((o, .inl (cJ, 1, .inr (.inl f))) :: tp_wC h a cI cZ (σ')) := hD
    refine lv_i2l (v := v.toInt64) hx hb dL_chunk_6 rfl ?_
    refine va_last hx hb hK hP hD hS 0 2 rfl rfl tp_vin0 dL_chunk_7 (fun H locs hP hD hS => ?_)
    have hP : va_P D tp_CL ((o, .inl (cJ, 1, .inr (.inl (vp_updL f (0 : Int32).toNatClampNeg v.toInt64)))) :: tp_wC h a cI cZ (σ')) H := hP
    refine lv_goto (tgt := 14) hx hb dL_chunk_8 (by decide) ?_
    refine lv_iconst (v := 0) hx hb dL_chunk_14 (by decide) ?_
    exact W.iret (v := 0) hx hb hrt (fun t ht _ => ⟨vp_updL f (0 : Int32).toNatClampNeg v.toInt64, rfl, fun _ => rfl, by rw [ht]; exact hP, hS.F ht⟩) hS.2.2 dL_chunk_15 hlocks
def tp_hhL_chunks : List (Nat × Nat × Nat × Nat) := [(0, 9, 12, 17)]
set_option maxHeartbeats 4000000 in
set_option maxRecDepth 100000 in
theorem cL_chunks (l : Launch) (hl0 : l.stackTraces = false) (D : va_G) (h : Nat) (a : Nat → Nat) (cI cZ cJ : ClassId) (o : Nat) (sz : Nat) (σ : tp_St) (f : Nat → Int64) (x1 : Int32) (r : Nat × Int32 × tp_St) (hr : fC_chunks σ x1 = some r) : Met l tp_yL_chunks (.codeWith tp_yL_chunks tp_bL_chunks 4 (some .int) tp_hhL_chunks :: tp_TB) { frames := 7, cells := 1, slots := 6, locals := 136 } (tp_PcX D [(cI, .int), (cZ, .boolean), (cJ, .long)] ((o, .inl (cJ, 1, .inr (.inl f))) :: tp_wC h a cI cZ σ) sz [.ref h, .int x1, .ref o]) (tp_qLo D h a cI cZ o cJ tp_mp1 r (va_A ((o, .inl (cJ, 1, .inr (.inl f))) :: tp_wC h a cI cZ σ) sz)) 1 6 (va_A ((o, .inl (cJ, 1, .inr (.inl f))) :: tp_wC h a cI cZ σ) sz) := by
  refine va_MetW (cc := tp_bL_chunks) (maxL := 4) (ret := (some .int)) (hh := tp_hhL_chunks) (by decide) rfl ?_
  intro p e s m args below meth c s₁ B hml hv
  obtain ⟨rfl, hsz, hP, hK, hD0, hX⟩ := hv
  have hx := B.exec
  have hb := B.bytes
  have hrt := B.returns
  have hTB : ∀ w ∈ tp_TB, w.before _ s = true := fun w z => atoms_spec (ws := (.codeWith tp_yL_chunks tp_bL_chunks 4 (some .int) tp_hhL_chunks :: tp_TB)) B.pre w (List.mem_cons_of_mem _ z)
  have htab : c.exceptionTable.toList = tableOf tp_hhL_chunks := vx_table (x := tp_yL_chunks) B (atoms_spec (ws := (.codeWith tp_yL_chunks tp_bL_chunks 4 (some .int) tp_hhL_chunks :: tp_TB)) B.pre _ List.mem_cons_self)
  have hown : s.vm.findClass tp_RL = some m.cls := findClass_of_methodNamed B.named
  have hlocks := B.notSynchronized
  have S : CallFix p m c tp_bL_chunks 4 s _ tp_TB tp_RL := ⟨hx, hb, hml, hown, hTB⟩
  subst hsz
  have hD : va_D (va_A ((o, .inl (cJ, 1, .inr (.inl f))) :: tp_wC h a cI cZ σ) s.heap.size) ((o, .inl (cJ, 1, .inr (.inl f))) :: tp_wC h a cI cZ σ) := hD0.self
  have hA : ∀ q : Nat, s.heap.size ≤ q → va_A ((o, .inl (cJ, 1, .inr (.inl f))) :: tp_wC h a cI cZ σ) s.heap.size q := fun q z => Or.inr z
  have hS : va_S (va_A ((o, .inl (cJ, 1, .inr (.inl f))) :: tp_wC h a cI cZ σ) s.heap.size) s.heap s.heap [] := va_S.rf
  have hl := lv_entry ([.ref h, .int x1, .ref o]) (n := 4) (Nat.le_of_ble_eq_true rfl)
  rw [lg_entry_eq]
  generalize (lg_sl ([.ref h, .int x1, .ref o]) ++ List.replicate (4 - (lg_sl ([.ref h, .int x1, .ref o])).length) Slot.unset).toArray = ls at hl ⊢
  have hl : lv_has ls 4 [(0, .ref h), (1, .int x1), (2, .ref o)] := hl
  refine lv_aload_n hx hb dL_chunks_0 rfl (lv_at hl 2 rfl) ?_
  refine lv_iconst (v := 0) hx hb dL_chunks_1 (by decide) ?_
  refine lv_aload_n hx hb dL_chunks_2 rfl (lv_at hl 0 rfl) ?_
  refine lv_iload_n hx hb dL_chunks_3 rfl (lv_at hl 1 rfl) ?_
  refine tp_kXT (wr := [(o, .inl (cJ, 1, .inr (.inl f)))]) (xs := [.int x1]) (rest := [.int 0, .ref o]) S (hK.sub (tys' := [(cI, .int), (cZ, .boolean)]) [0, 1] rfl) hX hP hD hS hA [1, 2, 3, 4, 5, 6, 7, 8] [0] rfl rfl rfl (by decide) (by decide) (by decide) (cC_chunks l hl0 D h a cI cZ _ σ x1 r hr) (cwV 1 hTB tp_gL_C_chunks rfl rfl rfl ⟨rfl, by decide, by decide, by decide +kernel⟩ ⟨Nat.le_of_ble_eq_true rfl, Nat.le_of_ble_eq_true rfl⟩) rfl hl.1 rfl (Nat.le_of_ble_eq_true rfl) dL_chunks_4 ⟨Nat.le_of_ble_eq_true rfl, Nat.le_of_ble_eq_true rfl⟩ (fun k σ' ce q9 H locs hk er hP hD hS hce hcv hcl => ?_) (fun v σ' H locs er hP hD hS => ?_)
  · subst er
    have hP : va_P D tp_CL ((o, .inl (cJ, 1, .inr (.inl f))) :: tp_wC h a cI cZ (σ')) H := hP
    have hk : k = 3 := by simpa using hk
    rcases hk with rfl
    · refine vx_catch (own := tp_RL) (name := tp_xN 3) hown [] (⟨0, 9, 12, 17⟩ : ExceptionTableEntry) [] htab (fun z hz => nomatch hz) (by decide) (by decide) (hTB _ tp_kL_17) (tp_ng_cast 3 (by decide) hX) hce hcv hcl ?_
      refine lv_astore_n hx hb dL_chunks_12 rfl hl (by decide) rfl (fun ls hl => ?_)
      refine lv_iconst (v := 1) hx hb dL_chunks_13 (by decide) ?_
      exact W.iret (v := 1) hx hb hrt (fun t ht _ => ⟨f, rfl, fun z9 => absurd z9 (show ¬ (3 : Nat) = 0 by decide), by rw [ht]; exact hP, hS.F ht⟩) hS.2.2 dL_chunks_14 hlocks
  · subst er
    have hP : va_P D tp_CL ((o, .inl (cJ, 1, .inr (.inl f))) :: tp_wC h a cI cZ (σ')) H := hP
    have hD : va_D (va_A ((o, .inl (cJ, 1, .inr (.inl f))) :: tp_wC h a cI cZ σ) s.heap.size) ((o, .inl (cJ, 1, .inr (.inl f))) :: tp_wC h a cI cZ (σ')) := hD
    refine lv_i2l (v := v.toInt64) hx hb dL_chunks_7 rfl ?_
    refine va_last hx hb hK hP hD hS 0 2 rfl rfl tp_vin0 dL_chunks_8 (fun H locs hP hD hS => ?_)
    have hP : va_P D tp_CL ((o, .inl (cJ, 1, .inr (.inl (vp_updL f (0 : Int32).toNatClampNeg v.toInt64)))) :: tp_wC h a cI cZ (σ')) H := hP
    refine lv_goto (tgt := 15) hx hb dL_chunks_9 (by decide) ?_
    refine lv_iconst (v := 0) hx hb dL_chunks_15 (by decide) ?_
    exact W.iret (v := 0) hx hb hrt (fun t ht _ => ⟨vp_updL f (0 : Int32).toNatClampNeg v.toInt64, rfl, fun _ => rfl, by rw [ht]; exact hP, hS.F ht⟩) hS.2.2 dL_chunks_16 hlocks
def tp_hhL_free : List (Nat × Nat × Nat × Nat) := [(0, 9, 12, 13)]
set_option maxHeartbeats 4000000 in
set_option maxRecDepth 100000 in
theorem cL_free (l : Launch) (hl0 : l.stackTraces = false) (D : va_G) (h : Nat) (a : Nat → Nat) (cI cZ cJ : ClassId) (o : Nat) (sz : Nat) (σ : tp_St) (f : Nat → Int64) (x1 : Int32) (r : Nat × Int32 × tp_St) (hr : fC_free σ x1 = some r) : Met l tp_yL_free (.codeWith tp_yL_free tp_bL_free 4 (some .int) tp_hhL_free :: tp_TB) { frames := 7, cells := 1, slots := 6, locals := 111 } (tp_PcX D [(cI, .int), (cZ, .boolean), (cJ, .long)] ((o, .inl (cJ, 1, .inr (.inl f))) :: tp_wC h a cI cZ σ) sz [.ref h, .int x1, .ref o]) (tp_qLo D h a cI cZ o cJ tp_mp1 r (va_A ((o, .inl (cJ, 1, .inr (.inl f))) :: tp_wC h a cI cZ σ) sz)) 1 6 (va_A ((o, .inl (cJ, 1, .inr (.inl f))) :: tp_wC h a cI cZ σ) sz) := by
  refine va_MetW (cc := tp_bL_free) (maxL := 4) (ret := (some .int)) (hh := tp_hhL_free) (by decide) rfl ?_
  intro p e s m args below meth c s₁ B hml hv
  obtain ⟨rfl, hsz, hP, hK, hD0, hX⟩ := hv
  have hx := B.exec
  have hb := B.bytes
  have hrt := B.returns
  have hTB : ∀ w ∈ tp_TB, w.before _ s = true := fun w z => atoms_spec (ws := (.codeWith tp_yL_free tp_bL_free 4 (some .int) tp_hhL_free :: tp_TB)) B.pre w (List.mem_cons_of_mem _ z)
  have htab : c.exceptionTable.toList = tableOf tp_hhL_free := vx_table (x := tp_yL_free) B (atoms_spec (ws := (.codeWith tp_yL_free tp_bL_free 4 (some .int) tp_hhL_free :: tp_TB)) B.pre _ List.mem_cons_self)
  have hown : s.vm.findClass tp_RL = some m.cls := findClass_of_methodNamed B.named
  have hlocks := B.notSynchronized
  have S : CallFix p m c tp_bL_free 4 s _ tp_TB tp_RL := ⟨hx, hb, hml, hown, hTB⟩
  subst hsz
  have hD : va_D (va_A ((o, .inl (cJ, 1, .inr (.inl f))) :: tp_wC h a cI cZ σ) s.heap.size) ((o, .inl (cJ, 1, .inr (.inl f))) :: tp_wC h a cI cZ σ) := hD0.self
  have hA : ∀ q : Nat, s.heap.size ≤ q → va_A ((o, .inl (cJ, 1, .inr (.inl f))) :: tp_wC h a cI cZ σ) s.heap.size q := fun q z => Or.inr z
  have hS : va_S (va_A ((o, .inl (cJ, 1, .inr (.inl f))) :: tp_wC h a cI cZ σ) s.heap.size) s.heap s.heap [] := va_S.rf
  have hl := lv_entry ([.ref h, .int x1, .ref o]) (n := 4) (Nat.le_of_ble_eq_true rfl)
  rw [lg_entry_eq]
  generalize (lg_sl ([.ref h, .int x1, .ref o]) ++ List.replicate (4 - (lg_sl ([.ref h, .int x1, .ref o])).length) Slot.unset).toArray = ls at hl ⊢
  have hl : lv_has ls 4 [(0, .ref h), (1, .int x1), (2, .ref o)] := hl
  refine lv_aload_n hx hb dL_free_0 rfl (lv_at hl 2 rfl) ?_
  refine lv_iconst (v := 0) hx hb dL_free_1 (by decide) ?_
  refine lv_aload_n hx hb dL_free_2 rfl (lv_at hl 0 rfl) ?_
  refine lv_iload_n hx hb dL_free_3 rfl (lv_at hl 1 rfl) ?_
  refine tp_kXT (wr := [(o, .inl (cJ, 1, .inr (.inl f)))]) (xs := [.int x1]) (rest := [.int 0, .ref o]) S (hK.sub (tys' := [(cI, .int), (cZ, .boolean)]) [0, 1] rfl) hX hP hD hS hA [1, 2, 3, 4, 5, 6, 7, 8] [0] rfl rfl rfl (by decide) (by decide) (by decide) (cC_free l hl0 D h a cI cZ _ σ x1 r hr) (cwV 1 hTB tp_gL_C_free rfl rfl rfl ⟨rfl, by decide, by decide, by decide +kernel⟩ ⟨Nat.le_of_ble_eq_true rfl, Nat.le_of_ble_eq_true rfl⟩) rfl hl.1 rfl (Nat.le_of_ble_eq_true rfl) dL_free_4 ⟨Nat.le_of_ble_eq_true rfl, Nat.le_of_ble_eq_true rfl⟩ (fun k σ' ce q9 H locs hk er hP hD hS hce hcv hcl => ?_) (fun v σ' H locs er hP hD hS => ?_)
  · subst er
    have hP : va_P D tp_CL ((o, .inl (cJ, 1, .inr (.inl f))) :: tp_wC h a cI cZ (σ')) H := hP
    have hk : k = 1 := by simpa using hk
    rcases hk with rfl
    · refine vx_catch (own := tp_RL) (name := tp_xN 1) hown [] (⟨0, 9, 12, 13⟩ : ExceptionTableEntry) [] htab (fun z hz => nomatch hz) (by decide) (by decide) (hTB _ tp_kL_13) (tp_ng_cast 1 (by decide) hX) hce hcv hcl ?_
      refine lv_astore_n hx hb dL_free_12 rfl hl (by decide) rfl (fun ls hl => ?_)
      refine lv_iconst (v := 1) hx hb dL_free_13 (by decide) ?_
      exact W.iret (v := 1) hx hb hrt (fun t ht _ => ⟨f, rfl, fun z9 => absurd z9 (show ¬ (1 : Nat) = 0 by decide), by rw [ht]; exact hP, hS.F ht⟩) hS.2.2 dL_free_14 hlocks
  · subst er
    have hP : va_P D tp_CL ((o, .inl (cJ, 1, .inr (.inl f))) :: tp_wC h a cI cZ (σ')) H := hP
    have hD : va_D (va_A ((o, .inl (cJ, 1, .inr (.inl f))) :: tp_wC h a cI cZ σ) s.heap.size) ((o, .inl (cJ, 1, .inr (.inl f))) :: tp_wC h a cI cZ (σ')) := hD
    refine lv_i2l (v := v.toInt64) hx hb dL_free_7 rfl ?_
    refine va_last hx hb hK hP hD hS 0 2 rfl rfl tp_vin0 dL_free_8 (fun H locs hP hD hS => ?_)
    have hP : va_P D tp_CL ((o, .inl (cJ, 1, .inr (.inl (vp_updL f (0 : Int32).toNatClampNeg v.toInt64)))) :: tp_wC h a cI cZ (σ')) H := hP
    refine lv_goto (tgt := 15) hx hb dL_free_9 (by decide) ?_
    refine lv_iconst (v := 0) hx hb dL_free_15 (by decide) ?_
    exact W.iret (v := 0) hx hb hrt (fun t ht _ => ⟨vp_updL f (0 : Int32).toNatClampNeg v.toInt64, rfl, fun _ => rfl, by rw [ht]; exact hP, hS.F ht⟩) hS.2.2 dL_free_16 hlocks
def tp_hhL_write : List (Nat × Nat × Nat × Nat) := [(0, 7, 10, 13), (0, 7, 14, 15)]
set_option maxHeartbeats 4000000 in
set_option maxRecDepth 100000 in
theorem cL_write (l : Launch) (hl0 : l.stackTraces = false) (D : va_G) (h : Nat) (a : Nat → Nat) (cI cZ : ClassId) (sz : Nat) (σ : tp_St) (x1 : Int32) (x2 : Int32) (x3 : Int32) (r : Nat × Int32 × tp_St) (hr : fC_write σ x1 x2 x3 = some r) : Met l tp_yL_write (.codeWith tp_yL_write tp_bL_write 5 (some .int) tp_hhL_write :: tp_TB) { frames := 7, cells := 1, slots := 6, locals := 112 } (tp_PcX D [(cI, .int), (cZ, .boolean)] (tp_wC h a cI cZ σ) sz [.ref h, .int x1, .int x2, .int x3]) (tp_qLn D h a cI cZ tp_mpI r (va_A (tp_wC h a cI cZ σ) sz)) 1 6 (va_A (tp_wC h a cI cZ σ) sz) := by
  refine va_MetW (cc := tp_bL_write) (maxL := 5) (ret := (some .int)) (hh := tp_hhL_write) (by decide) rfl ?_
  intro p e s m args below meth c s₁ B hml hv
  obtain ⟨rfl, hsz, hP, hK, hD0, hX⟩ := hv
  have hx := B.exec
  have hb := B.bytes
  have hrt := B.returns
  have hTB : ∀ w ∈ tp_TB, w.before _ s = true := fun w z => atoms_spec (ws := (.codeWith tp_yL_write tp_bL_write 5 (some .int) tp_hhL_write :: tp_TB)) B.pre w (List.mem_cons_of_mem _ z)
  have htab : c.exceptionTable.toList = tableOf tp_hhL_write := vx_table (x := tp_yL_write) B (atoms_spec (ws := (.codeWith tp_yL_write tp_bL_write 5 (some .int) tp_hhL_write :: tp_TB)) B.pre _ List.mem_cons_self)
  have hown : s.vm.findClass tp_RL = some m.cls := findClass_of_methodNamed B.named
  have hlocks := B.notSynchronized
  have S : CallFix p m c tp_bL_write 5 s _ tp_TB tp_RL := ⟨hx, hb, hml, hown, hTB⟩
  subst hsz
  have hD : va_D (va_A (tp_wC h a cI cZ σ) s.heap.size) (tp_wC h a cI cZ σ) := hD0.self
  have hA : ∀ q : Nat, s.heap.size ≤ q → va_A (tp_wC h a cI cZ σ) s.heap.size q := fun q z => Or.inr z
  have hS : va_S (va_A (tp_wC h a cI cZ σ) s.heap.size) s.heap s.heap [] := va_S.rf
  have hl := lv_entry ([.ref h, .int x1, .int x2, .int x3]) (n := 5) (Nat.le_of_ble_eq_true rfl)
  rw [lg_entry_eq]
  generalize (lg_sl ([.ref h, .int x1, .int x2, .int x3]) ++ List.replicate (5 - (lg_sl ([.ref h, .int x1, .int x2, .int x3])).length) Slot.unset).toArray = ls at hl ⊢
  have hl : lv_has ls 5 [(0, .ref h), (1, .int x1), (2, .int x2), (3, .int x3)] := hl
  refine lv_aload_n hx hb dL_write_0 rfl (lv_at hl 0 rfl) ?_
  refine lv_iload_n hx hb dL_write_1 rfl (lv_at hl 1 rfl) ?_
  refine lv_iload_n hx hb dL_write_2 rfl (lv_at hl 2 rfl) ?_
  refine lv_iload_n hx hb dL_write_3 rfl (lv_at hl 3 rfl) ?_
  refine tp_kXN (wr := []) (xs := [.int x1, .int x2, .int x3]) (rest := []) S (hK.sub (tys' := [(cI, .int), (cZ, .boolean)]) [0, 1] rfl) hX hP hD hS hA [0, 1, 2, 3, 4, 5, 6, 7] [] rfl rfl rfl (by decide) (by decide) (by decide) (cC_write l hl0 D h a cI cZ _ σ x1 x2 x3 r hr) (cwV 3 hTB tp_gL_C_write rfl rfl rfl ⟨rfl, by decide, by decide, by decide +kernel⟩ ⟨Nat.le_of_ble_eq_true rfl, Nat.le_of_ble_eq_true rfl⟩) rfl hl.1 rfl (Nat.le_of_ble_eq_true rfl) dL_write_4 ⟨Nat.le_of_ble_eq_true rfl, Nat.le_of_ble_eq_true rfl⟩ (fun k σ' ce q9 H locs hk er hP hD hS hce hcv hcl => ?_) (fun σ' H locs er hP hD hS => ?_)
  · subst er
    have hP : va_P D tp_CL (tp_wC h a cI cZ (σ')) H := hP
    have hk : k = 1 ∨ k = 2 := by simpa using hk
    rcases hk with rfl | rfl
    · refine vx_catch (own := tp_RL) (name := tp_xN 1) hown [] (⟨0, 7, 10, 13⟩ : ExceptionTableEntry) [(⟨0, 7, 14, 15⟩ : ExceptionTableEntry)] htab (fun z hz => nomatch hz) (by decide) (by decide) (hTB _ tp_kL_13) (tp_ng_cast 1 (by decide) hX) hce hcv hcl ?_
      refine lv_astore hx hb dL_write_10 hl (by decide) rfl (fun ls hl => ?_)
      refine lv_iconst (v := 1) hx hb dL_write_12 (by decide) ?_
      exact W.iret (v := 1) hx hb hrt (fun t ht _ => ⟨rfl, by rw [ht]; exact hP, hS.F ht⟩) hS.2.2 dL_write_13 hlocks
    · refine vx_catch (own := tp_RL) (name := tp_xN 2) hown [(⟨0, 7, 10, 13⟩ : ExceptionTableEntry)] (⟨0, 7, 14, 15⟩ : ExceptionTableEntry) [] htab (fun z hz => by cases List.mem_singleton.mp hz; exact Or.inr ⟨by decide, tp_xN 1, hTB _ tp_kL_13, hX.2.2.2.1⟩) (by decide) (by decide) (hTB _ tp_kL_15) (tp_ng_cast 2 (by decide) hX) hce hcv hcl ?_
      refine lv_astore hx hb dL_write_14 hl (by decide) rfl (fun ls hl => ?_)
      refine lv_iconst (v := 2) hx hb dL_write_16 (by decide) ?_
      exact W.iret (v := 2) hx hb hrt (fun t ht _ => ⟨rfl, by rw [ht]; exact hP, hS.F ht⟩) hS.2.2 dL_write_17 hlocks
  · subst er
    have hP : va_P D tp_CL (tp_wC h a cI cZ (σ')) H := hP
    have hD : va_D (va_A (tp_wC h a cI cZ σ) s.heap.size) (tp_wC h a cI cZ (σ')) := hD
    refine lv_goto (tgt := 18) hx hb dL_write_7 (by decide) ?_
    refine lv_iconst (v := 0) hx hb dL_write_18 (by decide) ?_
    exact W.iret (v := 0) hx hb hrt (fun t ht _ => ⟨rfl, by rw [ht]; exact hP, hS.F ht⟩) hS.2.2 dL_write_19 hlocks
def tp_hhL_read : List (Nat × Nat × Nat × Nat) := [(0, 10, 13, 13), (0, 10, 17, 15)]
set_option maxHeartbeats 4000000 in
set_option maxRecDepth 100000 in
theorem cL_read (l : Launch) (hl0 : l.stackTraces = false) (D : va_G) (h : Nat) (a : Nat → Nat) (cI cZ cJ : ClassId) (o : Nat) (sz : Nat) (σ : tp_St) (f : Nat → Int64) (x1 : Int32) (x2 : Int32) (r : Nat × Int32 × tp_St) (hr : fC_read σ x1 x2 = some r) : Met l tp_yL_read (.codeWith tp_yL_read tp_bL_read 5 (some .int) tp_hhL_read :: tp_TB) { frames := 7, cells := 1, slots := 6, locals := 111 } (tp_PcX D [(cI, .int), (cZ, .boolean), (cJ, .long)] ((o, .inl (cJ, 1, .inr (.inl f))) :: tp_wC h a cI cZ σ) sz [.ref h, .int x1, .int x2, .ref o]) (tp_qLo D h a cI cZ o cJ tp_mpI r (va_A ((o, .inl (cJ, 1, .inr (.inl f))) :: tp_wC h a cI cZ σ) sz)) 1 6 (va_A ((o, .inl (cJ, 1, .inr (.inl f))) :: tp_wC h a cI cZ σ) sz) := by
  refine va_MetW (cc := tp_bL_read) (maxL := 5) (ret := (some .int)) (hh := tp_hhL_read) (by decide) rfl ?_
  intro p e s m args below meth c s₁ B hml hv
  obtain ⟨rfl, hsz, hP, hK, hD0, hX⟩ := hv
  have hx := B.exec
  have hb := B.bytes
  have hrt := B.returns
  have hTB : ∀ w ∈ tp_TB, w.before _ s = true := fun w z => atoms_spec (ws := (.codeWith tp_yL_read tp_bL_read 5 (some .int) tp_hhL_read :: tp_TB)) B.pre w (List.mem_cons_of_mem _ z)
  have htab : c.exceptionTable.toList = tableOf tp_hhL_read := vx_table (x := tp_yL_read) B (atoms_spec (ws := (.codeWith tp_yL_read tp_bL_read 5 (some .int) tp_hhL_read :: tp_TB)) B.pre _ List.mem_cons_self)
  have hown : s.vm.findClass tp_RL = some m.cls := findClass_of_methodNamed B.named
  have hlocks := B.notSynchronized
  have S : CallFix p m c tp_bL_read 5 s _ tp_TB tp_RL := ⟨hx, hb, hml, hown, hTB⟩
  subst hsz
  have hD : va_D (va_A ((o, .inl (cJ, 1, .inr (.inl f))) :: tp_wC h a cI cZ σ) s.heap.size) ((o, .inl (cJ, 1, .inr (.inl f))) :: tp_wC h a cI cZ σ) := hD0.self
  have hA : ∀ q : Nat, s.heap.size ≤ q → va_A ((o, .inl (cJ, 1, .inr (.inl f))) :: tp_wC h a cI cZ σ) s.heap.size q := fun q z => Or.inr z
  have hS : va_S (va_A ((o, .inl (cJ, 1, .inr (.inl f))) :: tp_wC h a cI cZ σ) s.heap.size) s.heap s.heap [] := va_S.rf
  have hl := lv_entry ([.ref h, .int x1, .int x2, .ref o]) (n := 5) (Nat.le_of_ble_eq_true rfl)
  rw [lg_entry_eq]
  generalize (lg_sl ([.ref h, .int x1, .int x2, .ref o]) ++ List.replicate (5 - (lg_sl ([.ref h, .int x1, .int x2, .ref o])).length) Slot.unset).toArray = ls at hl ⊢
  have hl : lv_has ls 5 [(0, .ref h), (1, .int x1), (2, .int x2), (3, .ref o)] := hl
  refine lv_aload_n hx hb dL_read_0 rfl (lv_at hl 3 rfl) ?_
  refine lv_iconst (v := 0) hx hb dL_read_1 (by decide) ?_
  refine lv_aload_n hx hb dL_read_2 rfl (lv_at hl 0 rfl) ?_
  refine lv_iload_n hx hb dL_read_3 rfl (lv_at hl 1 rfl) ?_
  refine lv_iload_n hx hb dL_read_4 rfl (lv_at hl 2 rfl) ?_
  refine tp_kXT (wr := [(o, .inl (cJ, 1, .inr (.inl f)))]) (xs := [.int x1, .int x2]) (rest := [.int 0, .ref o]) S (hK.sub (tys' := [(cI, .int), (cZ, .boolean)]) [0, 1] rfl) hX hP hD hS hA [1, 2, 3, 4, 5, 6, 7, 8] [0] rfl rfl rfl (by decide) (by decide) (by decide) (cC_read l hl0 D h a cI cZ _ σ x1 x2 r hr) (cwV 2 hTB tp_gL_C_read rfl rfl rfl ⟨rfl, by decide, by decide, by decide +kernel⟩ ⟨Nat.le_of_ble_eq_true rfl, Nat.le_of_ble_eq_true rfl⟩) rfl hl.1 rfl (Nat.le_of_ble_eq_true rfl) dL_read_5 ⟨Nat.le_of_ble_eq_true rfl, Nat.le_of_ble_eq_true rfl⟩ (fun k σ' ce q9 H locs hk er hP hD hS hce hcv hcl => ?_) (fun v σ' H locs er hP hD hS => ?_)
  · subst er
    have hP : va_P D tp_CL ((o, .inl (cJ, 1, .inr (.inl f))) :: tp_wC h a cI cZ (σ')) H := hP
    have hk : k = 1 ∨ k = 2 := by simpa using hk
    rcases hk with rfl | rfl
    · refine vx_catch (own := tp_RL) (name := tp_xN 1) hown [] (⟨0, 10, 13, 13⟩ : ExceptionTableEntry) [(⟨0, 10, 17, 15⟩ : ExceptionTableEntry)] htab (fun z hz => nomatch hz) (by decide) (by decide) (hTB _ tp_kL_13) (tp_ng_cast 1 (by decide) hX) hce hcv hcl ?_
      refine lv_astore hx hb dL_read_13 hl (by decide) rfl (fun ls hl => ?_)
      refine lv_iconst (v := 1) hx hb dL_read_15 (by decide) ?_
      exact W.iret (v := 1) hx hb hrt (fun t ht _ => ⟨f, rfl, fun z9 => absurd z9 (show ¬ (1 : Nat) = 0 by decide), by rw [ht]; exact hP, hS.F ht⟩) hS.2.2 dL_read_16 hlocks
    · refine vx_catch (own := tp_RL) (name := tp_xN 2) hown [(⟨0, 10, 13, 13⟩ : ExceptionTableEntry)] (⟨0, 10, 17, 15⟩ : ExceptionTableEntry) [] htab (fun z hz => by cases List.mem_singleton.mp hz; exact Or.inr ⟨by decide, tp_xN 1, hTB _ tp_kL_13, hX.2.2.2.1⟩) (by decide) (by decide) (hTB _ tp_kL_15) (tp_ng_cast 2 (by decide) hX) hce hcv hcl ?_
      refine lv_astore hx hb dL_read_17 hl (by decide) rfl (fun ls hl => ?_)
      refine lv_iconst (v := 2) hx hb dL_read_19 (by decide) ?_
      exact W.iret (v := 2) hx hb hrt (fun t ht _ => ⟨f, rfl, fun z9 => absurd z9 (show ¬ (2 : Nat) = 0 by decide), by rw [ht]; exact hP, hS.F ht⟩) hS.2.2 dL_read_20 hlocks
  · subst er
    have hP : va_P D tp_CL ((o, .inl (cJ, 1, .inr (.inl f))) :: tp_wC h a cI cZ (σ')) H := hP
    have hD : va_D (va_A ((o, .inl (cJ, 1, .inr (.inl f))) :: tp_wC h a cI cZ σ) s.heap.size) ((o, .inl (cJ, 1, .inr (.inl f))) :: tp_wC h a cI cZ (σ')) := hD
    refine lv_i2l (v := v.toInt64) hx hb dL_read_8 rfl ?_
    refine va_last hx hb hK hP hD hS 0 2 rfl rfl tp_vin0 dL_read_9 (fun H locs hP hD hS => ?_)
    have hP : va_P D tp_CL ((o, .inl (cJ, 1, .inr (.inl (vp_updL f (0 : Int32).toNatClampNeg v.toInt64)))) :: tp_wC h a cI cZ (σ')) H := hP
    refine lv_goto (tgt := 21) hx hb dL_read_10 (by decide) ?_
    refine lv_iconst (v := 0) hx hb dL_read_21 (by decide) ?_
    exact W.iret (v := 0) hx hb hrt (fun t ht _ => ⟨vp_updL f (0 : Int32).toNatClampNeg v.toInt64, rfl, fun _ => rfl, by rw [ht]; exact hP, hS.F ht⟩) hS.2.2 dL_read_22 hlocks
def tp_hhL_fail : List (Nat × Nat × Nat × Nat) := [(0, 9, 12, 13)]
set_option maxHeartbeats 4000000 in
set_option maxRecDepth 100000 in
theorem cL_fail (l : Launch) (hl0 : l.stackTraces = false) (D : va_G) (h : Nat) (a : Nat → Nat) (cI cZ cJ : ClassId) (o : Nat) (sz : Nat) (σ : tp_St) (f : Nat → Int64) (x1 : Int32) (r : Nat × Int32 × tp_St) (hr : fC_fail σ x1 = some r) : Met l tp_yL_fail (.codeWith tp_yL_fail tp_bL_fail 4 (some .int) tp_hhL_fail :: tp_TB) { frames := 7, cells := 1, slots := 6, locals := 112 } (tp_PcX D [(cI, .int), (cZ, .boolean), (cJ, .long)] ((o, .inl (cJ, 1, .inr (.inl f))) :: tp_wC h a cI cZ σ) sz [.ref h, .int x1, .ref o]) (tp_qLo D h a cI cZ o cJ tp_mp1 r (va_A ((o, .inl (cJ, 1, .inr (.inl f))) :: tp_wC h a cI cZ σ) sz)) 1 6 (va_A ((o, .inl (cJ, 1, .inr (.inl f))) :: tp_wC h a cI cZ σ) sz) := by
  refine va_MetW (cc := tp_bL_fail) (maxL := 4) (ret := (some .int)) (hh := tp_hhL_fail) (by decide) rfl ?_
  intro p e s m args below meth c s₁ B hml hv
  obtain ⟨rfl, hsz, hP, hK, hD0, hX⟩ := hv
  have hx := B.exec
  have hb := B.bytes
  have hrt := B.returns
  have hTB : ∀ w ∈ tp_TB, w.before _ s = true := fun w z => atoms_spec (ws := (.codeWith tp_yL_fail tp_bL_fail 4 (some .int) tp_hhL_fail :: tp_TB)) B.pre w (List.mem_cons_of_mem _ z)
  have htab : c.exceptionTable.toList = tableOf tp_hhL_fail := vx_table (x := tp_yL_fail) B (atoms_spec (ws := (.codeWith tp_yL_fail tp_bL_fail 4 (some .int) tp_hhL_fail :: tp_TB)) B.pre _ List.mem_cons_self)
  have hown : s.vm.findClass tp_RL = some m.cls := findClass_of_methodNamed B.named
  have hlocks := B.notSynchronized
  have S : CallFix p m c tp_bL_fail 4 s _ tp_TB tp_RL := ⟨hx, hb, hml, hown, hTB⟩
  subst hsz
  have hD : va_D (va_A ((o, .inl (cJ, 1, .inr (.inl f))) :: tp_wC h a cI cZ σ) s.heap.size) ((o, .inl (cJ, 1, .inr (.inl f))) :: tp_wC h a cI cZ σ) := hD0.self
  have hA : ∀ q : Nat, s.heap.size ≤ q → va_A ((o, .inl (cJ, 1, .inr (.inl f))) :: tp_wC h a cI cZ σ) s.heap.size q := fun q z => Or.inr z
  have hS : va_S (va_A ((o, .inl (cJ, 1, .inr (.inl f))) :: tp_wC h a cI cZ σ) s.heap.size) s.heap s.heap [] := va_S.rf
  have hl := lv_entry ([.ref h, .int x1, .ref o]) (n := 4) (Nat.le_of_ble_eq_true rfl)
  rw [lg_entry_eq]
  generalize (lg_sl ([.ref h, .int x1, .ref o]) ++ List.replicate (4 - (lg_sl ([.ref h, .int x1, .ref o])).length) Slot.unset).toArray = ls at hl ⊢
  have hl : lv_has ls 4 [(0, .ref h), (1, .int x1), (2, .ref o)] := hl
  refine lv_aload_n hx hb dL_fail_0 rfl (lv_at hl 2 rfl) ?_
  refine lv_iconst (v := 0) hx hb dL_fail_1 (by decide) ?_
  refine lv_aload_n hx hb dL_fail_2 rfl (lv_at hl 0 rfl) ?_
  refine lv_iload_n hx hb dL_fail_3 rfl (lv_at hl 1 rfl) ?_
  refine tp_kXT (wr := [(o, .inl (cJ, 1, .inr (.inl f)))]) (xs := [.int x1]) (rest := [.int 0, .ref o]) S (hK.sub (tys' := [(cI, .int), (cZ, .boolean)]) [0, 1] rfl) hX hP hD hS hA [1, 2, 3, 4, 5, 6, 7, 8] [0] rfl rfl rfl (by decide) (by decide) (by decide) (cC_fail l hl0 D h a cI cZ _ σ x1 r hr) (cwV 1 hTB tp_gL_C_fail rfl rfl rfl ⟨rfl, by decide, by decide, by decide +kernel⟩ ⟨Nat.le_of_ble_eq_true rfl, Nat.le_of_ble_eq_true rfl⟩) rfl hl.1 rfl (Nat.le_of_ble_eq_true rfl) dL_fail_4 ⟨Nat.le_of_ble_eq_true rfl, Nat.le_of_ble_eq_true rfl⟩ (fun k σ' ce q9 H locs hk er hP hD hS hce hcv hcl => ?_) (fun v σ' H locs er hP hD hS => ?_)
  · subst er
    have hP : va_P D tp_CL ((o, .inl (cJ, 1, .inr (.inl f))) :: tp_wC h a cI cZ (σ')) H := hP
    have hk : k = 1 := by simpa using hk
    rcases hk with rfl
    · refine vx_catch (own := tp_RL) (name := tp_xN 1) hown [] (⟨0, 9, 12, 13⟩ : ExceptionTableEntry) [] htab (fun z hz => nomatch hz) (by decide) (by decide) (hTB _ tp_kL_13) (tp_ng_cast 1 (by decide) hX) hce hcv hcl ?_
      refine lv_astore_n hx hb dL_fail_12 rfl hl (by decide) rfl (fun ls hl => ?_)
      refine lv_iconst (v := 1) hx hb dL_fail_13 (by decide) ?_
      exact W.iret (v := 1) hx hb hrt (fun t ht _ => ⟨f, rfl, fun z9 => absurd z9 (show ¬ (1 : Nat) = 0 by decide), by rw [ht]; exact hP, hS.F ht⟩) hS.2.2 dL_fail_14 hlocks
  · subst er
    have hP : va_P D tp_CL ((o, .inl (cJ, 1, .inr (.inl f))) :: tp_wC h a cI cZ (σ')) H := hP
    have hD : va_D (va_A ((o, .inl (cJ, 1, .inr (.inl f))) :: tp_wC h a cI cZ σ) s.heap.size) ((o, .inl (cJ, 1, .inr (.inl f))) :: tp_wC h a cI cZ (σ')) := hD
    refine lv_i2l (v := v.toInt64) hx hb dL_fail_7 rfl ?_
    refine va_last hx hb hK hP hD hS 0 2 rfl rfl tp_vin0 dL_fail_8 (fun H locs hP hD hS => ?_)
    have hP : va_P D tp_CL ((o, .inl (cJ, 1, .inr (.inl (vp_updL f (0 : Int32).toNatClampNeg v.toInt64)))) :: tp_wC h a cI cZ (σ')) H := hP
    refine lv_goto (tgt := 15) hx hb dL_fail_9 (by decide) ?_
    refine lv_iconst (v := 0) hx hb dL_fail_15 (by decide) ?_
    exact W.iret (v := 0) hx hb hrt (fun t ht _ => ⟨vp_updL f (0 : Int32).toNatClampNeg v.toInt64, rfl, fun _ => rfl, by rw [ht]; exact hP, hS.F ht⟩) hS.2.2 dL_fail_16 hlocks
def tp_hhL_leave : List (Nat × Nat × Nat × Nat) := [(0, 9, 12, 13), (0, 9, 15, 15), (0, 9, 18, 23)]
set_option maxHeartbeats 4000000 in
set_option maxRecDepth 100000 in
theorem cL_leave (l : Launch) (hl0 : l.stackTraces = false) (D : va_G) (h : Nat) (a : Nat → Nat) (cI cZ cJ : ClassId) (o : Nat) (sz : Nat) (σ : tp_St) (f : Nat → Int64) (x1 : Int32) (r : Nat × Int32 × tp_St) (hr : fC_leave σ x1 = some r) : Met l tp_yL_leave (.codeWith tp_yL_leave tp_bL_leave 4 (some .int) tp_hhL_leave :: tp_TB) { frames := 7, cells := 1, slots := 6, locals := 111 } (tp_PcX D [(cI, .int), (cZ, .boolean), (cJ, .long)] ((o, .inl (cJ, 1, .inr (.inl f))) :: tp_wC h a cI cZ σ) sz [.ref h, .int x1, .ref o]) (tp_qLo D h a cI cZ o cJ tp_mpL r (va_A ((o, .inl (cJ, 1, .inr (.inl f))) :: tp_wC h a cI cZ σ) sz)) 1 6 (va_A ((o, .inl (cJ, 1, .inr (.inl f))) :: tp_wC h a cI cZ σ) sz) := by
  refine va_MetW (cc := tp_bL_leave) (maxL := 4) (ret := (some .int)) (hh := tp_hhL_leave) (by decide) rfl ?_
  intro p e s m args below meth c s₁ B hml hv
  obtain ⟨rfl, hsz, hP, hK, hD0, hX⟩ := hv
  have hx := B.exec
  have hb := B.bytes
  have hrt := B.returns
  have hTB : ∀ w ∈ tp_TB, w.before _ s = true := fun w z => atoms_spec (ws := (.codeWith tp_yL_leave tp_bL_leave 4 (some .int) tp_hhL_leave :: tp_TB)) B.pre w (List.mem_cons_of_mem _ z)
  have htab : c.exceptionTable.toList = tableOf tp_hhL_leave := vx_table (x := tp_yL_leave) B (atoms_spec (ws := (.codeWith tp_yL_leave tp_bL_leave 4 (some .int) tp_hhL_leave :: tp_TB)) B.pre _ List.mem_cons_self)
  have hown : s.vm.findClass tp_RL = some m.cls := findClass_of_methodNamed B.named
  have hlocks := B.notSynchronized
  have S : CallFix p m c tp_bL_leave 4 s _ tp_TB tp_RL := ⟨hx, hb, hml, hown, hTB⟩
  subst hsz
  have hD : va_D (va_A ((o, .inl (cJ, 1, .inr (.inl f))) :: tp_wC h a cI cZ σ) s.heap.size) ((o, .inl (cJ, 1, .inr (.inl f))) :: tp_wC h a cI cZ σ) := hD0.self
  have hA : ∀ q : Nat, s.heap.size ≤ q → va_A ((o, .inl (cJ, 1, .inr (.inl f))) :: tp_wC h a cI cZ σ) s.heap.size q := fun q z => Or.inr z
  have hS : va_S (va_A ((o, .inl (cJ, 1, .inr (.inl f))) :: tp_wC h a cI cZ σ) s.heap.size) s.heap s.heap [] := va_S.rf
  have hl := lv_entry ([.ref h, .int x1, .ref o]) (n := 4) (Nat.le_of_ble_eq_true rfl)
  rw [lg_entry_eq]
  generalize (lg_sl ([.ref h, .int x1, .ref o]) ++ List.replicate (4 - (lg_sl ([.ref h, .int x1, .ref o])).length) Slot.unset).toArray = ls at hl ⊢
  have hl : lv_has ls 4 [(0, .ref h), (1, .int x1), (2, .ref o)] := hl
  refine lv_aload_n hx hb dL_leave_0 rfl (lv_at hl 2 rfl) ?_
  refine lv_iconst (v := 0) hx hb dL_leave_1 (by decide) ?_
  refine lv_aload_n hx hb dL_leave_2 rfl (lv_at hl 0 rfl) ?_
  refine lv_iload_n hx hb dL_leave_3 rfl (lv_at hl 1 rfl) ?_
  refine tp_kXT (wr := [(o, .inl (cJ, 1, .inr (.inl f)))]) (xs := [.int x1]) (rest := [.int 0, .ref o]) S (hK.sub (tys' := [(cI, .int), (cZ, .boolean)]) [0, 1] rfl) hX hP hD hS hA [1, 2, 3, 4, 5, 6, 7, 8] [0] rfl rfl rfl (by decide) (by decide) (by decide) (cC_leave l hl0 D h a cI cZ _ σ x1 r hr) (cwV 1 hTB tp_gL_C_leave rfl rfl rfl ⟨rfl, by decide, by decide, by decide +kernel⟩ ⟨Nat.le_of_ble_eq_true rfl, Nat.le_of_ble_eq_true rfl⟩) rfl hl.1 rfl (Nat.le_of_ble_eq_true rfl) dL_leave_4 ⟨Nat.le_of_ble_eq_true rfl, Nat.le_of_ble_eq_true rfl⟩ (fun k σ' ce q9 H locs hk er hP hD hS hce hcv hcl => ?_) (fun v σ' H locs er hP hD hS => ?_)
  · subst er
    have hP : va_P D tp_CL ((o, .inl (cJ, 1, .inr (.inl f))) :: tp_wC h a cI cZ (σ')) H := hP
    have hk : k = 1 ∨ k = 2 ∨ k = 4 := by simpa using hk
    rcases hk with rfl | rfl | rfl
    · refine vx_catch (own := tp_RL) (name := tp_xN 1) hown [] (⟨0, 9, 12, 13⟩ : ExceptionTableEntry) [(⟨0, 9, 15, 15⟩ : ExceptionTableEntry), (⟨0, 9, 18, 23⟩ : ExceptionTableEntry)] htab (fun z hz => nomatch hz) (by decide) (by decide) (hTB _ tp_kL_13) (tp_ng_cast 1 (by decide) hX) hce hcv hcl ?_
      refine lv_astore_n hx hb dL_leave_12 rfl hl (by decide) rfl (fun ls hl => ?_)
      refine lv_iconst (v := 1) hx hb dL_leave_13 (by decide) ?_
      exact W.iret (v := 1) hx hb hrt (fun t ht _ => ⟨f, rfl, fun z9 => absurd z9 (show ¬ (1 : Nat) = 0 by decide), by rw [ht]; exact hP, hS.F ht⟩) hS.2.2 dL_leave_14 hlocks
    · refine vx_catch (own := tp_RL) (name := tp_xN 2) hown [(⟨0, 9, 12, 13⟩ : ExceptionTableEntry)] (⟨0, 9, 15, 15⟩ : ExceptionTableEntry) [(⟨0, 9, 18, 23⟩ : ExceptionTableEntry)] htab (fun z hz => by cases List.mem_singleton.mp hz; exact Or.inr ⟨by decide, tp_xN 1, hTB _ tp_kL_13, hX.2.2.2.1⟩) (by decide) (by decide) (hTB _ tp_kL_15) (tp_ng_cast 2 (by decide) hX) hce hcv hcl ?_
      refine lv_astore_n hx hb dL_leave_15 rfl hl (by decide) rfl (fun ls hl => ?_)
      refine lv_iconst (v := 2) hx hb dL_leave_16 (by decide) ?_
      exact W.iret (v := 2) hx hb hrt (fun t ht _ => ⟨f, rfl, fun z9 => absurd z9 (show ¬ (2 : Nat) = 0 by decide), by rw [ht]; exact hP, hS.F ht⟩) hS.2.2 dL_leave_17 hlocks
    · refine vx_catch (own := tp_RL) (name := tp_xN 4) hown [(⟨0, 9, 12, 13⟩ : ExceptionTableEntry), (⟨0, 9, 15, 15⟩ : ExceptionTableEntry)] (⟨0, 9, 18, 23⟩ : ExceptionTableEntry) [] htab (fun z hz => (List.mem_cons.mp hz).elim (fun e9 => by rw [e9]; exact Or.inr ⟨by decide, tp_xN 1, hTB _ tp_kL_13, hX.2.2.2.2.2.2.1⟩) (fun hz => by cases List.mem_singleton.mp hz; exact Or.inr ⟨by decide, tp_xN 2, hTB _ tp_kL_15, hX.2.2.2.2.2.2.2⟩)) (by decide) (by decide) (hTB _ tp_kL_23) (tp_ng_cast 4 (by decide) hX) hce hcv hcl ?_
      refine lv_astore_n hx hb dL_leave_18 rfl hl (by decide) rfl (fun ls hl => ?_)
      refine lv_iconst (v := 3) hx hb dL_leave_19 (by decide) ?_
      exact W.iret (v := 3) hx hb hrt (fun t ht _ => ⟨f, rfl, fun z9 => absurd z9 (show ¬ (4 : Nat) = 0 by decide), by rw [ht]; exact hP, hS.F ht⟩) hS.2.2 dL_leave_20 hlocks
  · subst er
    have hP : va_P D tp_CL ((o, .inl (cJ, 1, .inr (.inl f))) :: tp_wC h a cI cZ (σ')) H := hP
    have hD : va_D (va_A ((o, .inl (cJ, 1, .inr (.inl f))) :: tp_wC h a cI cZ σ) s.heap.size) ((o, .inl (cJ, 1, .inr (.inl f))) :: tp_wC h a cI cZ (σ')) := hD
    refine lv_i2l (v := v.toInt64) hx hb dL_leave_7 rfl ?_
    refine va_last hx hb hK hP hD hS 0 2 rfl rfl tp_vin0 dL_leave_8 (fun H locs hP hD hS => ?_)
    have hP : va_P D tp_CL ((o, .inl (cJ, 1, .inr (.inl (vp_updL f (0 : Int32).toNatClampNeg v.toInt64)))) :: tp_wC h a cI cZ (σ')) H := hP
    refine lv_goto (tgt := 21) hx hb dL_leave_9 (by decide) ?_
    refine lv_iconst (v := 0) hx hb dL_leave_21 (by decide) ?_
    exact W.iret (v := 0) hx hb hrt (fun t ht _ => ⟨vp_updL f (0 : Int32).toNatClampNeg v.toInt64, rfl, fun _ => rfl, by rw [ht]; exact hP, hS.F ht⟩) hS.2.2 dL_leave_22 hlocks
def tp_hhL_stay : List (Nat × Nat × Nat × Nat) := [(0, 5, 8, 13), (0, 5, 11, 15)]
set_option maxHeartbeats 4000000 in
set_option maxRecDepth 100000 in
theorem cL_stay (l : Launch) (hl0 : l.stackTraces = false) (D : va_G) (h : Nat) (a : Nat → Nat) (cI cZ : ClassId) (sz : Nat) (σ : tp_St) (x1 : Int32) (r : Nat × Int32 × tp_St) (hr : fC_stay σ x1 = some r) : Met l tp_yL_stay (.codeWith tp_yL_stay tp_bL_stay 3 (some .int) tp_hhL_stay :: tp_TB) { frames := 7, cells := 1, slots := 6, locals := 110 } (tp_PcX D [(cI, .int), (cZ, .boolean)] (tp_wC h a cI cZ σ) sz [.ref h, .int x1]) (tp_qLn D h a cI cZ tp_mpI r (va_A (tp_wC h a cI cZ σ) sz)) 1 6 (va_A (tp_wC h a cI cZ σ) sz) := by
  refine va_MetW (cc := tp_bL_stay) (maxL := 3) (ret := (some .int)) (hh := tp_hhL_stay) (by decide) rfl ?_
  intro p e s m args below meth c s₁ B hml hv
  obtain ⟨rfl, hsz, hP, hK, hD0, hX⟩ := hv
  have hx := B.exec
  have hb := B.bytes
  have hrt := B.returns
  have hTB : ∀ w ∈ tp_TB, w.before _ s = true := fun w z => atoms_spec (ws := (.codeWith tp_yL_stay tp_bL_stay 3 (some .int) tp_hhL_stay :: tp_TB)) B.pre w (List.mem_cons_of_mem _ z)
  have htab : c.exceptionTable.toList = tableOf tp_hhL_stay := vx_table (x := tp_yL_stay) B (atoms_spec (ws := (.codeWith tp_yL_stay tp_bL_stay 3 (some .int) tp_hhL_stay :: tp_TB)) B.pre _ List.mem_cons_self)
  have hown : s.vm.findClass tp_RL = some m.cls := findClass_of_methodNamed B.named
  have hlocks := B.notSynchronized
  have S : CallFix p m c tp_bL_stay 3 s _ tp_TB tp_RL := ⟨hx, hb, hml, hown, hTB⟩
  subst hsz
  have hD : va_D (va_A (tp_wC h a cI cZ σ) s.heap.size) (tp_wC h a cI cZ σ) := hD0.self
  have hA : ∀ q : Nat, s.heap.size ≤ q → va_A (tp_wC h a cI cZ σ) s.heap.size q := fun q z => Or.inr z
  have hS : va_S (va_A (tp_wC h a cI cZ σ) s.heap.size) s.heap s.heap [] := va_S.rf
  have hl := lv_entry ([.ref h, .int x1]) (n := 3) (Nat.le_of_ble_eq_true rfl)
  rw [lg_entry_eq]
  generalize (lg_sl ([.ref h, .int x1]) ++ List.replicate (3 - (lg_sl ([.ref h, .int x1])).length) Slot.unset).toArray = ls at hl ⊢
  have hl : lv_has ls 3 [(0, .ref h), (1, .int x1)] := hl
  refine lv_aload_n hx hb dL_stay_0 rfl (lv_at hl 0 rfl) ?_
  refine lv_iload_n hx hb dL_stay_1 rfl (lv_at hl 1 rfl) ?_
  refine tp_kXN (wr := []) (xs := [.int x1]) (rest := []) S (hK.sub (tys' := [(cI, .int), (cZ, .boolean)]) [0, 1] rfl) hX hP hD hS hA [0, 1, 2, 3, 4, 5, 6, 7] [] rfl rfl rfl (by decide) (by decide) (by decide) (cC_stay l hl0 D h a cI cZ _ σ x1 r hr) (cwV 1 hTB tp_gL_C_stay rfl rfl rfl ⟨rfl, by decide, by decide, by decide +kernel⟩ ⟨Nat.le_of_ble_eq_true rfl, Nat.le_of_ble_eq_true rfl⟩) rfl hl.1 rfl (Nat.le_of_ble_eq_true rfl) dL_stay_2 ⟨Nat.le_of_ble_eq_true rfl, Nat.le_of_ble_eq_true rfl⟩ (fun k σ' ce q9 H locs hk er hP hD hS hce hcv hcl => ?_) (fun σ' H locs er hP hD hS => ?_)
  · subst er
    have hP : va_P D tp_CL (tp_wC h a cI cZ (σ')) H := hP
    have hk : k = 1 ∨ k = 2 := by simpa using hk
    rcases hk with rfl | rfl
    · refine vx_catch (own := tp_RL) (name := tp_xN 1) hown [] (⟨0, 5, 8, 13⟩ : ExceptionTableEntry) [(⟨0, 5, 11, 15⟩ : ExceptionTableEntry)] htab (fun z hz => nomatch hz) (by decide) (by decide) (hTB _ tp_kL_13) (tp_ng_cast 1 (by decide) hX) hce hcv hcl ?_
      refine lv_astore_n hx hb dL_stay_8 rfl hl (by decide) rfl (fun ls hl => ?_)
      refine lv_iconst (v := 1) hx hb dL_stay_9 (by decide) ?_
      exact W.iret (v := 1) hx hb hrt (fun t ht _ => ⟨rfl, by rw [ht]; exact hP, hS.F ht⟩) hS.2.2 dL_stay_10 hlocks
    · refine vx_catch (own := tp_RL) (name := tp_xN 2) hown [(⟨0, 5, 8, 13⟩ : ExceptionTableEntry)] (⟨0, 5, 11, 15⟩ : ExceptionTableEntry) [] htab (fun z hz => by cases List.mem_singleton.mp hz; exact Or.inr ⟨by decide, tp_xN 1, hTB _ tp_kL_13, hX.2.2.2.1⟩) (by decide) (by decide) (hTB _ tp_kL_15) (tp_ng_cast 2 (by decide) hX) hce hcv hcl ?_
      refine lv_astore_n hx hb dL_stay_11 rfl hl (by decide) rfl (fun ls hl => ?_)
      refine lv_iconst (v := 2) hx hb dL_stay_12 (by decide) ?_
      exact W.iret (v := 2) hx hb hrt (fun t ht _ => ⟨rfl, by rw [ht]; exact hP, hS.F ht⟩) hS.2.2 dL_stay_13 hlocks
  · subst er
    have hP : va_P D tp_CL (tp_wC h a cI cZ (σ')) H := hP
    have hD : va_D (va_A (tp_wC h a cI cZ σ) s.heap.size) (tp_wC h a cI cZ (σ')) := hD
    refine lv_goto (tgt := 14) hx hb dL_stay_5 (by decide) ?_
    refine lv_iconst (v := 0) hx hb dL_stay_14 (by decide) ?_
    exact W.iret (v := 0) hx hb hrt (fun t ht _ => ⟨rfl, by rw [ht]; exact hP, hS.F ht⟩) hS.2.2 dL_stay_15 hlocks
def tp_hhL_steps : List (Nat × Nat × Nat × Nat) := [(0, 9, 12, 17)]
set_option maxHeartbeats 4000000 in
set_option maxRecDepth 100000 in
theorem cL_steps (l : Launch) (hl0 : l.stackTraces = false) (D : va_G) (h : Nat) (a : Nat → Nat) (cI cZ cJ : ClassId) (o : Nat) (sz : Nat) (σ : tp_St) (f : Nat → Int64) (x1 : Int32) (r : Nat × Int32 × tp_St) (hr : fC_steps σ x1 = some r) : Met l tp_yL_steps (.codeWith tp_yL_steps tp_bL_steps 4 (some .int) tp_hhL_steps :: tp_TB) { frames := 7, cells := 1, slots := 6, locals := 155 } (tp_PcX D [(cI, .int), (cZ, .boolean), (cJ, .long)] ((o, .inl (cJ, 1, .inr (.inl f))) :: tp_wC h a cI cZ σ) sz [.ref h, .int x1, .ref o]) (tp_qLo D h a cI cZ o cJ tp_mp1 r (va_A ((o, .inl (cJ, 1, .inr (.inl f))) :: tp_wC h a cI cZ σ) sz)) 1 6 (va_A ((o, .inl (cJ, 1, .inr (.inl f))) :: tp_wC h a cI cZ σ) sz) := by
  refine va_MetW (cc := tp_bL_steps) (maxL := 4) (ret := (some .int)) (hh := tp_hhL_steps) (by decide) rfl ?_
  intro p e s m args below meth c s₁ B hml hv
  obtain ⟨rfl, hsz, hP, hK, hD0, hX⟩ := hv
  have hx := B.exec
  have hb := B.bytes
  have hrt := B.returns
  have hTB : ∀ w ∈ tp_TB, w.before _ s = true := fun w z => atoms_spec (ws := (.codeWith tp_yL_steps tp_bL_steps 4 (some .int) tp_hhL_steps :: tp_TB)) B.pre w (List.mem_cons_of_mem _ z)
  have htab : c.exceptionTable.toList = tableOf tp_hhL_steps := vx_table (x := tp_yL_steps) B (atoms_spec (ws := (.codeWith tp_yL_steps tp_bL_steps 4 (some .int) tp_hhL_steps :: tp_TB)) B.pre _ List.mem_cons_self)
  have hown : s.vm.findClass tp_RL = some m.cls := findClass_of_methodNamed B.named
  have hlocks := B.notSynchronized
  have S : CallFix p m c tp_bL_steps 4 s _ tp_TB tp_RL := ⟨hx, hb, hml, hown, hTB⟩
  subst hsz
  have hD : va_D (va_A ((o, .inl (cJ, 1, .inr (.inl f))) :: tp_wC h a cI cZ σ) s.heap.size) ((o, .inl (cJ, 1, .inr (.inl f))) :: tp_wC h a cI cZ σ) := hD0.self
  have hA : ∀ q : Nat, s.heap.size ≤ q → va_A ((o, .inl (cJ, 1, .inr (.inl f))) :: tp_wC h a cI cZ σ) s.heap.size q := fun q z => Or.inr z
  have hS : va_S (va_A ((o, .inl (cJ, 1, .inr (.inl f))) :: tp_wC h a cI cZ σ) s.heap.size) s.heap s.heap [] := va_S.rf
  have hl := lv_entry ([.ref h, .int x1, .ref o]) (n := 4) (Nat.le_of_ble_eq_true rfl)
  rw [lg_entry_eq]
  generalize (lg_sl ([.ref h, .int x1, .ref o]) ++ List.replicate (4 - (lg_sl ([.ref h, .int x1, .ref o])).length) Slot.unset).toArray = ls at hl ⊢
  have hl : lv_has ls 4 [(0, .ref h), (1, .int x1), (2, .ref o)] := hl
  refine lv_aload_n hx hb dL_steps_0 rfl (lv_at hl 2 rfl) ?_
  refine lv_iconst (v := 0) hx hb dL_steps_1 (by decide) ?_
  refine lv_aload_n hx hb dL_steps_2 rfl (lv_at hl 0 rfl) ?_
  refine lv_iload_n hx hb dL_steps_3 rfl (lv_at hl 1 rfl) ?_
  refine tp_kXT (wr := [(o, .inl (cJ, 1, .inr (.inl f)))]) (xs := [.int x1]) (rest := [.int 0, .ref o]) S (hK.sub (tys' := [(cI, .int), (cZ, .boolean)]) [0, 1] rfl) hX hP hD hS hA [1, 2, 3, 4, 5, 6, 7, 8] [0] rfl rfl rfl (by decide) (by decide) (by decide) (cC_steps l hl0 D h a cI cZ _ σ x1 r hr) (cwV 1 hTB tp_gL_C_steps rfl rfl rfl ⟨rfl, by decide, by decide, by decide +kernel⟩ ⟨Nat.le_of_ble_eq_true rfl, Nat.le_of_ble_eq_true rfl⟩) rfl hl.1 rfl (Nat.le_of_ble_eq_true rfl) dL_steps_4 ⟨Nat.le_of_ble_eq_true rfl, Nat.le_of_ble_eq_true rfl⟩ (fun k σ' ce q9 H locs hk er hP hD hS hce hcv hcl => ?_) (fun v σ' H locs er hP hD hS => ?_)
  · subst er
    have hP : va_P D tp_CL ((o, .inl (cJ, 1, .inr (.inl f))) :: tp_wC h a cI cZ (σ')) H := hP
    have hk : k = 3 := by simpa using hk
    rcases hk with rfl
    · refine vx_catch (own := tp_RL) (name := tp_xN 3) hown [] (⟨0, 9, 12, 17⟩ : ExceptionTableEntry) [] htab (fun z hz => nomatch hz) (by decide) (by decide) (hTB _ tp_kL_17) (tp_ng_cast 3 (by decide) hX) hce hcv hcl ?_
      refine lv_astore_n hx hb dL_steps_12 rfl hl (by decide) rfl (fun ls hl => ?_)
      refine lv_iconst (v := 1) hx hb dL_steps_13 (by decide) ?_
      exact W.iret (v := 1) hx hb hrt (fun t ht _ => ⟨f, rfl, fun z9 => absurd z9 (show ¬ (3 : Nat) = 0 by decide), by rw [ht]; exact hP, hS.F ht⟩) hS.2.2 dL_steps_14 hlocks
  · subst er
    have hP : va_P D tp_CL ((o, .inl (cJ, 1, .inr (.inl f))) :: tp_wC h a cI cZ (σ')) H := hP
    have hD : va_D (va_A ((o, .inl (cJ, 1, .inr (.inl f))) :: tp_wC h a cI cZ σ) s.heap.size) ((o, .inl (cJ, 1, .inr (.inl f))) :: tp_wC h a cI cZ (σ')) := hD
    refine lv_i2l (v := v.toInt64) hx hb dL_steps_7 rfl ?_
    refine va_last hx hb hK hP hD hS 0 2 rfl rfl tp_vin0 dL_steps_8 (fun H locs hP hD hS => ?_)
    have hP : va_P D tp_CL ((o, .inl (cJ, 1, .inr (.inl (vp_updL f (0 : Int32).toNatClampNeg v.toInt64)))) :: tp_wC h a cI cZ (σ')) H := hP
    refine lv_goto (tgt := 15) hx hb dL_steps_9 (by decide) ?_
    refine lv_iconst (v := 0) hx hb dL_steps_15 (by decide) ?_
    exact W.iret (v := 0) hx hb hrt (fun t ht _ => ⟨vp_updL f (0 : Int32).toNatClampNeg v.toInt64, rfl, fun _ => rfl, by rw [ht]; exact hP, hS.F ht⟩) hS.2.2 dL_steps_16 hlocks
def tp_hhL_place : List (Nat × Nat × Nat × Nat) := [(0, 10, 13, 13)]
set_option maxHeartbeats 4000000 in
set_option maxRecDepth 100000 in
theorem cL_place (l : Launch) (hl0 : l.stackTraces = false) (D : va_G) (h : Nat) (a : Nat → Nat) (cI cZ cJ : ClassId) (o : Nat) (sz : Nat) (σ : tp_St) (f : Nat → Int64) (x1 : Int32) (x2 : Int32) (r : Nat × Int32 × tp_St) (hr : fC_place σ x1 x2 = some r) : Met l tp_yL_place (.codeWith tp_yL_place tp_bL_place 5 (some .int) tp_hhL_place :: tp_TB) { frames := 7, cells := 1, slots := 6, locals := 111 } (tp_PcX D [(cI, .int), (cZ, .boolean), (cJ, .long)] ((o, .inl (cJ, 1, .inr (.inl f))) :: tp_wC h a cI cZ σ) sz [.ref h, .int x1, .int x2, .ref o]) (tp_qLo D h a cI cZ o cJ tp_mp1 r (va_A ((o, .inl (cJ, 1, .inr (.inl f))) :: tp_wC h a cI cZ σ) sz)) 1 6 (va_A ((o, .inl (cJ, 1, .inr (.inl f))) :: tp_wC h a cI cZ σ) sz) := by
  refine va_MetW (cc := tp_bL_place) (maxL := 5) (ret := (some .int)) (hh := tp_hhL_place) (by decide) rfl ?_
  intro p e s m args below meth c s₁ B hml hv
  obtain ⟨rfl, hsz, hP, hK, hD0, hX⟩ := hv
  have hx := B.exec
  have hb := B.bytes
  have hrt := B.returns
  have hTB : ∀ w ∈ tp_TB, w.before _ s = true := fun w z => atoms_spec (ws := (.codeWith tp_yL_place tp_bL_place 5 (some .int) tp_hhL_place :: tp_TB)) B.pre w (List.mem_cons_of_mem _ z)
  have htab : c.exceptionTable.toList = tableOf tp_hhL_place := vx_table (x := tp_yL_place) B (atoms_spec (ws := (.codeWith tp_yL_place tp_bL_place 5 (some .int) tp_hhL_place :: tp_TB)) B.pre _ List.mem_cons_self)
  have hown : s.vm.findClass tp_RL = some m.cls := findClass_of_methodNamed B.named
  have hlocks := B.notSynchronized
  have S : CallFix p m c tp_bL_place 5 s _ tp_TB tp_RL := ⟨hx, hb, hml, hown, hTB⟩
  subst hsz
  have hD : va_D (va_A ((o, .inl (cJ, 1, .inr (.inl f))) :: tp_wC h a cI cZ σ) s.heap.size) ((o, .inl (cJ, 1, .inr (.inl f))) :: tp_wC h a cI cZ σ) := hD0.self
  have hA : ∀ q : Nat, s.heap.size ≤ q → va_A ((o, .inl (cJ, 1, .inr (.inl f))) :: tp_wC h a cI cZ σ) s.heap.size q := fun q z => Or.inr z
  have hS : va_S (va_A ((o, .inl (cJ, 1, .inr (.inl f))) :: tp_wC h a cI cZ σ) s.heap.size) s.heap s.heap [] := va_S.rf
  have hl := lv_entry ([.ref h, .int x1, .int x2, .ref o]) (n := 5) (Nat.le_of_ble_eq_true rfl)
  rw [lg_entry_eq]
  generalize (lg_sl ([.ref h, .int x1, .int x2, .ref o]) ++ List.replicate (5 - (lg_sl ([.ref h, .int x1, .int x2, .ref o])).length) Slot.unset).toArray = ls at hl ⊢
  have hl : lv_has ls 5 [(0, .ref h), (1, .int x1), (2, .int x2), (3, .ref o)] := hl
  refine lv_aload_n hx hb dL_place_0 rfl (lv_at hl 3 rfl) ?_
  refine lv_iconst (v := 0) hx hb dL_place_1 (by decide) ?_
  refine lv_aload_n hx hb dL_place_2 rfl (lv_at hl 0 rfl) ?_
  refine lv_iload_n hx hb dL_place_3 rfl (lv_at hl 1 rfl) ?_
  refine lv_iload_n hx hb dL_place_4 rfl (lv_at hl 2 rfl) ?_
  refine tp_kXT (wr := [(o, .inl (cJ, 1, .inr (.inl f)))]) (xs := [.int x1, .int x2]) (rest := [.int 0, .ref o]) S (hK.sub (tys' := [(cI, .int), (cZ, .boolean)]) [0, 1] rfl) hX hP hD hS hA [1, 2, 3, 4, 5, 6, 7, 8] [0] rfl rfl rfl (by decide) (by decide) (by decide) (cC_place l hl0 D h a cI cZ _ σ x1 x2 r hr) (cwV 2 hTB tp_gL_C_place rfl rfl rfl ⟨rfl, by decide, by decide, by decide +kernel⟩ ⟨Nat.le_of_ble_eq_true rfl, Nat.le_of_ble_eq_true rfl⟩) rfl hl.1 rfl (Nat.le_of_ble_eq_true rfl) dL_place_5 ⟨Nat.le_of_ble_eq_true rfl, Nat.le_of_ble_eq_true rfl⟩ (fun k σ' ce q9 H locs hk er hP hD hS hce hcv hcl => ?_) (fun v σ' H locs er hP hD hS => ?_)
  · subst er
    have hP : va_P D tp_CL ((o, .inl (cJ, 1, .inr (.inl f))) :: tp_wC h a cI cZ (σ')) H := hP
    have hk : k = 1 := by simpa using hk
    rcases hk with rfl
    · refine vx_catch (own := tp_RL) (name := tp_xN 1) hown [] (⟨0, 10, 13, 13⟩ : ExceptionTableEntry) [] htab (fun z hz => nomatch hz) (by decide) (by decide) (hTB _ tp_kL_13) (tp_ng_cast 1 (by decide) hX) hce hcv hcl ?_
      refine lv_astore hx hb dL_place_13 hl (by decide) rfl (fun ls hl => ?_)
      refine lv_iconst (v := 1) hx hb dL_place_15 (by decide) ?_
      exact W.iret (v := 1) hx hb hrt (fun t ht _ => ⟨f, rfl, fun z9 => absurd z9 (show ¬ (1 : Nat) = 0 by decide), by rw [ht]; exact hP, hS.F ht⟩) hS.2.2 dL_place_16 hlocks
  · subst er
    have hP : va_P D tp_CL ((o, .inl (cJ, 1, .inr (.inl f))) :: tp_wC h a cI cZ (σ')) H := hP
    have hD : va_D (va_A ((o, .inl (cJ, 1, .inr (.inl f))) :: tp_wC h a cI cZ σ) s.heap.size) ((o, .inl (cJ, 1, .inr (.inl f))) :: tp_wC h a cI cZ (σ')) := hD
    refine lv_i2l (v := v.toInt64) hx hb dL_place_8 rfl ?_
    refine va_last hx hb hK hP hD hS 0 2 rfl rfl tp_vin0 dL_place_9 (fun H locs hP hD hS => ?_)
    have hP : va_P D tp_CL ((o, .inl (cJ, 1, .inr (.inl (vp_updL f (0 : Int32).toNatClampNeg v.toInt64)))) :: tp_wC h a cI cZ (σ')) H := hP
    refine lv_goto (tgt := 17) hx hb dL_place_10 (by decide) ?_
    refine lv_iconst (v := 0) hx hb dL_place_17 (by decide) ?_
    exact W.iret (v := 0) hx hb hrt (fun t ht _ => ⟨vp_updL f (0 : Int32).toNatClampNeg v.toInt64, rfl, fun _ => rfl, by rw [ht]; exact hP, hS.F ht⟩) hS.2.2 dL_place_18 hlocks
def tp_hhL_about : List (Nat × Nat × Nat × Nat) := [(0, 10, 13, 13), (0, 10, 17, 17)]
set_option maxHeartbeats 4000000 in
set_option maxRecDepth 100000 in
theorem cL_about (l : Launch) (hl0 : l.stackTraces = false) (D : va_G) (h : Nat) (a : Nat → Nat) (cI cZ cJ : ClassId) (o : Nat) (sz : Nat) (σ : tp_St) (f : Nat → Int64) (x1 : Int32) (x2 : Int32) (r : Nat × Int32 × tp_St) (hr : fC_about σ x1 x2 = some r) : Met l tp_yL_about (.codeWith tp_yL_about tp_bL_about 5 (some .int) tp_hhL_about :: tp_TB) { frames := 7, cells := 1, slots := 6, locals := 111 } (tp_PcX D [(cI, .int), (cZ, .boolean), (cJ, .long)] ((o, .inl (cJ, 1, .inr (.inl f))) :: tp_wC h a cI cZ σ) sz [.ref h, .int x1, .int x2, .ref o]) (tp_qLo D h a cI cZ o cJ tp_mpA r (va_A ((o, .inl (cJ, 1, .inr (.inl f))) :: tp_wC h a cI cZ σ) sz)) 1 6 (va_A ((o, .inl (cJ, 1, .inr (.inl f))) :: tp_wC h a cI cZ σ) sz) := by
  refine va_MetW (cc := tp_bL_about) (maxL := 5) (ret := (some .int)) (hh := tp_hhL_about) (by decide) rfl ?_
  intro p e s m args below meth c s₁ B hml hv
  obtain ⟨rfl, hsz, hP, hK, hD0, hX⟩ := hv
  have hx := B.exec
  have hb := B.bytes
  have hrt := B.returns
  have hTB : ∀ w ∈ tp_TB, w.before _ s = true := fun w z => atoms_spec (ws := (.codeWith tp_yL_about tp_bL_about 5 (some .int) tp_hhL_about :: tp_TB)) B.pre w (List.mem_cons_of_mem _ z)
  have htab : c.exceptionTable.toList = tableOf tp_hhL_about := vx_table (x := tp_yL_about) B (atoms_spec (ws := (.codeWith tp_yL_about tp_bL_about 5 (some .int) tp_hhL_about :: tp_TB)) B.pre _ List.mem_cons_self)
  have hown : s.vm.findClass tp_RL = some m.cls := findClass_of_methodNamed B.named
  have hlocks := B.notSynchronized
  have S : CallFix p m c tp_bL_about 5 s _ tp_TB tp_RL := ⟨hx, hb, hml, hown, hTB⟩
  subst hsz
  have hD : va_D (va_A ((o, .inl (cJ, 1, .inr (.inl f))) :: tp_wC h a cI cZ σ) s.heap.size) ((o, .inl (cJ, 1, .inr (.inl f))) :: tp_wC h a cI cZ σ) := hD0.self
  have hA : ∀ q : Nat, s.heap.size ≤ q → va_A ((o, .inl (cJ, 1, .inr (.inl f))) :: tp_wC h a cI cZ σ) s.heap.size q := fun q z => Or.inr z
  have hS : va_S (va_A ((o, .inl (cJ, 1, .inr (.inl f))) :: tp_wC h a cI cZ σ) s.heap.size) s.heap s.heap [] := va_S.rf
  have hl := lv_entry ([.ref h, .int x1, .int x2, .ref o]) (n := 5) (Nat.le_of_ble_eq_true rfl)
  rw [lg_entry_eq]
  generalize (lg_sl ([.ref h, .int x1, .int x2, .ref o]) ++ List.replicate (5 - (lg_sl ([.ref h, .int x1, .int x2, .ref o])).length) Slot.unset).toArray = ls at hl ⊢
  have hl : lv_has ls 5 [(0, .ref h), (1, .int x1), (2, .int x2), (3, .ref o)] := hl
  refine lv_aload_n hx hb dL_about_0 rfl (lv_at hl 3 rfl) ?_
  refine lv_iconst (v := 0) hx hb dL_about_1 (by decide) ?_
  refine lv_aload_n hx hb dL_about_2 rfl (lv_at hl 0 rfl) ?_
  refine lv_iload_n hx hb dL_about_3 rfl (lv_at hl 1 rfl) ?_
  refine lv_iload_n hx hb dL_about_4 rfl (lv_at hl 2 rfl) ?_
  refine tp_kXT (wr := [(o, .inl (cJ, 1, .inr (.inl f)))]) (xs := [.int x1, .int x2]) (rest := [.int 0, .ref o]) S (hK.sub (tys' := [(cI, .int), (cZ, .boolean)]) [0, 1] rfl) hX hP hD hS hA [1, 2, 3, 4, 5, 6, 7, 8] [0] rfl rfl rfl (by decide) (by decide) (by decide) (cC_about l hl0 D h a cI cZ _ σ x1 x2 r hr) (cwV 2 hTB tp_gL_C_about rfl rfl rfl ⟨rfl, by decide, by decide, by decide +kernel⟩ ⟨Nat.le_of_ble_eq_true rfl, Nat.le_of_ble_eq_true rfl⟩) rfl hl.1 rfl (Nat.le_of_ble_eq_true rfl) dL_about_5 ⟨Nat.le_of_ble_eq_true rfl, Nat.le_of_ble_eq_true rfl⟩ (fun k σ' ce q9 H locs hk er hP hD hS hce hcv hcl => ?_) (fun v σ' H locs er hP hD hS => ?_)
  · subst er
    have hP : va_P D tp_CL ((o, .inl (cJ, 1, .inr (.inl f))) :: tp_wC h a cI cZ (σ')) H := hP
    have hk : k = 1 ∨ k = 3 := by simpa using hk
    rcases hk with rfl | rfl
    · refine vx_catch (own := tp_RL) (name := tp_xN 1) hown [] (⟨0, 10, 13, 13⟩ : ExceptionTableEntry) [(⟨0, 10, 17, 17⟩ : ExceptionTableEntry)] htab (fun z hz => nomatch hz) (by decide) (by decide) (hTB _ tp_kL_13) (tp_ng_cast 1 (by decide) hX) hce hcv hcl ?_
      refine lv_astore hx hb dL_about_13 hl (by decide) rfl (fun ls hl => ?_)
      refine lv_iconst (v := 1) hx hb dL_about_15 (by decide) ?_
      exact W.iret (v := 1) hx hb hrt (fun t ht _ => ⟨f, rfl, fun z9 => absurd z9 (show ¬ (1 : Nat) = 0 by decide), by rw [ht]; exact hP, hS.F ht⟩) hS.2.2 dL_about_16 hlocks
    · refine vx_catch (own := tp_RL) (name := tp_xN 3) hown [(⟨0, 10, 13, 13⟩ : ExceptionTableEntry)] (⟨0, 10, 17, 17⟩ : ExceptionTableEntry) [] htab (fun z hz => by cases List.mem_singleton.mp hz; exact Or.inr ⟨by decide, tp_xN 1, hTB _ tp_kL_13, hX.2.2.2.2.1⟩) (by decide) (by decide) (hTB _ tp_kL_17) (tp_ng_cast 3 (by decide) hX) hce hcv hcl ?_
      refine lv_astore hx hb dL_about_17 hl (by decide) rfl (fun ls hl => ?_)
      refine lv_iconst (v := 2) hx hb dL_about_19 (by decide) ?_
      exact W.iret (v := 2) hx hb hrt (fun t ht _ => ⟨f, rfl, fun z9 => absurd z9 (show ¬ (3 : Nat) = 0 by decide), by rw [ht]; exact hP, hS.F ht⟩) hS.2.2 dL_about_20 hlocks
  · subst er
    have hP : va_P D tp_CL ((o, .inl (cJ, 1, .inr (.inl f))) :: tp_wC h a cI cZ (σ')) H := hP
    have hD : va_D (va_A ((o, .inl (cJ, 1, .inr (.inl f))) :: tp_wC h a cI cZ σ) s.heap.size) ((o, .inl (cJ, 1, .inr (.inl f))) :: tp_wC h a cI cZ (σ')) := hD
    refine lv_i2l (v := v.toInt64) hx hb dL_about_8 rfl ?_
    refine va_last hx hb hK hP hD hS 0 2 rfl rfl tp_vin0 dL_about_9 (fun H locs hP hD hS => ?_)
    have hP : va_P D tp_CL ((o, .inl (cJ, 1, .inr (.inl (vp_updL f (0 : Int32).toNatClampNeg v.toInt64)))) :: tp_wC h a cI cZ (σ')) H := hP
    refine lv_goto (tgt := 21) hx hb dL_about_10 (by decide) ?_
    refine lv_iconst (v := 0) hx hb dL_about_21 (by decide) ?_
    exact W.iret (v := 0) hx hb hrt (fun t ht _ => ⟨vp_updL f (0 : Int32).toNatClampNeg v.toInt64, rfl, fun _ => rfl, by rw [ht]; exact hP, hS.F ht⟩) hS.2.2 dL_about_22 hlocks
def tp_hhL_count : List (Nat × Nat × Nat × Nat) := [(0, 9, 12, 17)]
set_option maxHeartbeats 4000000 in
set_option maxRecDepth 100000 in
theorem cL_count (l : Launch) (hl0 : l.stackTraces = false) (D : va_G) (h : Nat) (a : Nat → Nat) (cI cZ cJ : ClassId) (o : Nat) (sz : Nat) (σ : tp_St) (f : Nat → Int64) (x1 : Int32) (r : Nat × Int32 × tp_St) (hr : fC_count σ x1 = some r) : Met l tp_yL_count (.codeWith tp_yL_count tp_bL_count 4 (some .int) tp_hhL_count :: tp_TB) { frames := 7, cells := 1, slots := 6, locals := 110 } (tp_PcX D [(cI, .int), (cZ, .boolean), (cJ, .long)] ((o, .inl (cJ, 1, .inr (.inl f))) :: tp_wC h a cI cZ σ) sz [.ref h, .int x1, .ref o]) (tp_qLo D h a cI cZ o cJ tp_mp1 r (va_A ((o, .inl (cJ, 1, .inr (.inl f))) :: tp_wC h a cI cZ σ) sz)) 1 6 (va_A ((o, .inl (cJ, 1, .inr (.inl f))) :: tp_wC h a cI cZ σ) sz) := by
  refine va_MetW (cc := tp_bL_count) (maxL := 4) (ret := (some .int)) (hh := tp_hhL_count) (by decide) rfl ?_
  intro p e s m args below meth c s₁ B hml hv
  obtain ⟨rfl, hsz, hP, hK, hD0, hX⟩ := hv
  have hx := B.exec
  have hb := B.bytes
  have hrt := B.returns
  have hTB : ∀ w ∈ tp_TB, w.before _ s = true := fun w z => atoms_spec (ws := (.codeWith tp_yL_count tp_bL_count 4 (some .int) tp_hhL_count :: tp_TB)) B.pre w (List.mem_cons_of_mem _ z)
  have htab : c.exceptionTable.toList = tableOf tp_hhL_count := vx_table (x := tp_yL_count) B (atoms_spec (ws := (.codeWith tp_yL_count tp_bL_count 4 (some .int) tp_hhL_count :: tp_TB)) B.pre _ List.mem_cons_self)
  have hown : s.vm.findClass tp_RL = some m.cls := findClass_of_methodNamed B.named
  have hlocks := B.notSynchronized
  have S : CallFix p m c tp_bL_count 4 s _ tp_TB tp_RL := ⟨hx, hb, hml, hown, hTB⟩
  subst hsz
  have hD : va_D (va_A ((o, .inl (cJ, 1, .inr (.inl f))) :: tp_wC h a cI cZ σ) s.heap.size) ((o, .inl (cJ, 1, .inr (.inl f))) :: tp_wC h a cI cZ σ) := hD0.self
  have hA : ∀ q : Nat, s.heap.size ≤ q → va_A ((o, .inl (cJ, 1, .inr (.inl f))) :: tp_wC h a cI cZ σ) s.heap.size q := fun q z => Or.inr z
  have hS : va_S (va_A ((o, .inl (cJ, 1, .inr (.inl f))) :: tp_wC h a cI cZ σ) s.heap.size) s.heap s.heap [] := va_S.rf
  have hl := lv_entry ([.ref h, .int x1, .ref o]) (n := 4) (Nat.le_of_ble_eq_true rfl)
  rw [lg_entry_eq]
  generalize (lg_sl ([.ref h, .int x1, .ref o]) ++ List.replicate (4 - (lg_sl ([.ref h, .int x1, .ref o])).length) Slot.unset).toArray = ls at hl ⊢
  have hl : lv_has ls 4 [(0, .ref h), (1, .int x1), (2, .ref o)] := hl
  refine lv_aload_n hx hb dL_count_0 rfl (lv_at hl 2 rfl) ?_
  refine lv_iconst (v := 0) hx hb dL_count_1 (by decide) ?_
  refine lv_aload_n hx hb dL_count_2 rfl (lv_at hl 0 rfl) ?_
  refine lv_iload_n hx hb dL_count_3 rfl (lv_at hl 1 rfl) ?_
  refine tp_kXT (wr := [(o, .inl (cJ, 1, .inr (.inl f)))]) (xs := [.int x1]) (rest := [.int 0, .ref o]) S (hK.sub (tys' := [(cI, .int), (cZ, .boolean)]) [0, 1] rfl) hX hP hD hS hA [1, 2, 3, 4, 5, 6, 7, 8] [0] rfl rfl rfl (by decide) (by decide) (by decide) (cC_count l hl0 D h a cI cZ _ σ x1 r hr) (cwV 1 hTB tp_gL_C_count rfl rfl rfl ⟨rfl, by decide, by decide, by decide +kernel⟩ ⟨Nat.le_of_ble_eq_true rfl, Nat.le_of_ble_eq_true rfl⟩) rfl hl.1 rfl (Nat.le_of_ble_eq_true rfl) dL_count_4 ⟨Nat.le_of_ble_eq_true rfl, Nat.le_of_ble_eq_true rfl⟩ (fun k σ' ce q9 H locs hk er hP hD hS hce hcv hcl => ?_) (fun v σ' H locs er hP hD hS => ?_)
  · subst er
    have hP : va_P D tp_CL ((o, .inl (cJ, 1, .inr (.inl f))) :: tp_wC h a cI cZ (σ')) H := hP
    have hk : k = 3 := by simpa using hk
    rcases hk with rfl
    · refine vx_catch (own := tp_RL) (name := tp_xN 3) hown [] (⟨0, 9, 12, 17⟩ : ExceptionTableEntry) [] htab (fun z hz => nomatch hz) (by decide) (by decide) (hTB _ tp_kL_17) (tp_ng_cast 3 (by decide) hX) hce hcv hcl ?_
      refine lv_astore_n hx hb dL_count_12 rfl hl (by decide) rfl (fun ls hl => ?_)
      refine lv_iconst (v := 1) hx hb dL_count_13 (by decide) ?_
      exact W.iret (v := 1) hx hb hrt (fun t ht _ => ⟨f, rfl, fun z9 => absurd z9 (show ¬ (3 : Nat) = 0 by decide), by rw [ht]; exact hP, hS.F ht⟩) hS.2.2 dL_count_14 hlocks
  · subst er
    have hP : va_P D tp_CL ((o, .inl (cJ, 1, .inr (.inl f))) :: tp_wC h a cI cZ (σ')) H := hP
    have hD : va_D (va_A ((o, .inl (cJ, 1, .inr (.inl f))) :: tp_wC h a cI cZ σ) s.heap.size) ((o, .inl (cJ, 1, .inr (.inl f))) :: tp_wC h a cI cZ (σ')) := hD
    refine lv_i2l (v := v.toInt64) hx hb dL_count_7 rfl ?_
    refine va_last hx hb hK hP hD hS 0 2 rfl rfl tp_vin0 dL_count_8 (fun H locs hP hD hS => ?_)
    have hP : va_P D tp_CL ((o, .inl (cJ, 1, .inr (.inl (vp_updL f (0 : Int32).toNatClampNeg v.toInt64)))) :: tp_wC h a cI cZ (σ')) H := hP
    refine lv_goto (tgt := 15) hx hb dL_count_9 (by decide) ?_
    refine lv_iconst (v := 0) hx hb dL_count_15 (by decide) ?_
    exact W.iret (v := 0) hx hb hrt (fun t ht _ => ⟨vp_updL f (0 : Int32).toNatClampNeg v.toInt64, rfl, fun _ => rfl, by rw [ht]; exact hP, hS.F ht⟩) hS.2.2 dL_count_16 hlocks
