section
variable {p : Program} {l : Launch} {e : Env} {R : Room} {s : State} {m : MethodId} {args : Array Value} {below : List Frame} {meth : Method} {c : Code} {H : Heap} {locs : List Loc} {cells slots : Nat} {Q : State → Prop}
variable {cc : ByteArray} {pc : Nat} {ls : Array Slot} {rest : List Value} {D : va_G} {cI cZ : ClassId} {ws : va_W} {A0 : Nat → Prop} {H0 : Heap}
theorem tp_nwI (hx : p.tables.exec = Jvm.exec) (hb : c.code = cc) (harr : (Cond.arrayClass .int).before args s = true) (hK : va_K D tp_CL [(cI, .int), (cZ, .boolean)] s) (hP : va_P D tp_CL ws H) (hD : va_D A0 ws) (hS : va_S A0 H0 H locs) (hA : ∀ q, H0.size ≤ q → A0 q) {n : Int32} {N' : Nat} (hn : ¬ n < 0) (hN : n.toNatClampNeg = N') (hby : N' * componentBytes .int ≤ 536870912) (hcells : cells + 1 ≤ R.cells) (hslots : slots + N' ≤ R.slots) (hdg : decode cc pc = .ok (.newarray .int, 2))
    (kk : ∀ (q : Nat) (H1 : Heap), va_P D tp_CL (ws ++ [(q, .inl (cI, N', .inl (fun _ => 0)))]) H1 → va_D A0 (ws ++ [(q, .inl (cI, N', .inl (fun _ => 0)))]) → va_S A0 H0 H1 locs → W p l e R s m args below meth c H1 locs (cells + 1) (slots + N') Q (F0 m (pc + 2) ls (.ref q :: rest))) : W p l e R s m args below meth c H locs cells slots Q (F0 m pc ls (.int n :: rest)) :=
  va_newa (atype := .int) (ty := .int) (a0 := (N', .inl (fun _ => 0))) hx hb harr rfl hK hP hD hS hA (fun _ => by first | rfl | (rw [vp_cell_i]; rfl)) hn hN hby hcells hslots hdg (fun q cA H1 hK' hP' hD' hS' => by
    have e1 : s.vm.findClass ("[" ++ FieldType.int.toString) = some cA := (hK'.2 2 _ rfl).2
    have e2 : s.vm.findClass ("[" ++ FieldType.int.toString) = some cI := (hK.2 0 _ rfl).2
    have e3 : cA = cI := Option.some.inj (e1.symm.trans e2)
    rw [e3] at hP' hD'
    exact kk q H1 hP' hD' hS')
theorem tp_nwZ (hx : p.tables.exec = Jvm.exec) (hb : c.code = cc) (harr : (Cond.arrayClass .boolean).before args s = true) (hK : va_K D tp_CL [(cI, .int), (cZ, .boolean)] s) (hP : va_P D tp_CL ws H) (hD : va_D A0 ws) (hS : va_S A0 H0 H locs) (hA : ∀ q, H0.size ≤ q → A0 q) {n : Int32} {N' : Nat} (hn : ¬ n < 0) (hN : n.toNatClampNeg = N') (hby : N' * componentBytes .boolean ≤ 536870912) (hcells : cells + 1 ≤ R.cells) (hslots : slots + N' ≤ R.slots) (hdg : decode cc pc = .ok (.newarray .boolean, 2))
    (kk : ∀ (q : Nat) (H1 : Heap), va_P D tp_CL (ws ++ [(q, .inl (cZ, N', .inl (fun _ => 0)))]) H1 → va_D A0 (ws ++ [(q, .inl (cZ, N', .inl (fun _ => 0)))]) → va_S A0 H0 H1 locs → W p l e R s m args below meth c H1 locs (cells + 1) (slots + N') Q (F0 m (pc + 2) ls (.ref q :: rest))) : W p l e R s m args below meth c H locs cells slots Q (F0 m pc ls (.int n :: rest)) :=
  va_newa (atype := .boolean) (ty := .boolean) (a0 := (N', .inl (fun _ => 0))) hx hb harr rfl hK hP hD hS hA (fun _ => by first | rfl | (rw [vp_cell_i]; rfl)) hn hN hby hcells hslots hdg (fun q cA H1 hK' hP' hD' hS' => by
    have e1 : s.vm.findClass ("[" ++ FieldType.boolean.toString) = some cA := (hK'.2 2 _ rfl).2
    have e2 : s.vm.findClass ("[" ++ FieldType.boolean.toString) = some cZ := (hK.2 1 _ rfl).2
    have e3 : cA = cZ := Option.some.inj (e1.symm.trans e2)
    rw [e3] at hP' hD'
    exact kk q H1 hP' hD' hS')
end
theorem tp_kA_I : Cond.arrayClass .int ∈ tp_TB := tp_TB_1 (by decide +kernel)
theorem tp_kA_Z : Cond.arrayClass .boolean ∈ tp_TB := tp_TB_1 (by decide +kernel)
theorem tp_kO_in : Cond.instanceMethod Lib.objectInit ∈ tp_TB := tp_TB_1 (by decide +kernel)
theorem tp_kO_cd : Cond.code Lib.objectInit ⟨#[0xb1]⟩ 1 none ∈ tp_TB := tp_TB_1 (by decide +kernel)
def tp_startC (σ : tp_St) : Prop := (∀ d, d < 12 → σ 0 d = 0 ∧ σ 1 d = 0 ∧ σ 2 d = 0) ∧ (∀ c, c < 400 → σ 3 c = 0 ∧ σ 4 c = -1 ∧ σ 5 c = -1) ∧ (∀ k, k < 1600 → σ 6 k = 0) ∧ σ 7 0 = 0
def tp_startM (τ : tp_St) : Prop := (∀ d, d < 12 → τ 1 d = 0) ∧ (∀ c, c < 400 → τ 3 c = 0 ∧ τ 4 c = 0) ∧ (∀ k, k < 1600 → τ 5 k = 0) ∧ τ 6 0 = 0
theorem tp_kO_C : Cond.methodLink tp_RC 1 Lib.objectInit ∈ tp_TB := tp_TB_1 (by decide +kernel)
set_option maxHeartbeats 4000000 in
set_option maxRecDepth 100000 in
theorem cC_init (l : Launch) (D : va_G) (h : Nat) (cI cZ : ClassId) (sz : Nat) : Met l tp_yC_init (tp_wsT tp_yC_init tp_bC_init 2 none) { frames := 1, cells := 7, slots := 2836, locals := 20 } (tp_PcW D [(cI, .int), (cZ, .boolean)] [(h, .inr (0, [.null, .null, .null, .null, .null, .null, .null, .int 0]))] sz [.ref h]) (va_Qv (fun u : (Nat → Nat) × tp_St => tp_startC u.2) (fun u t => va_P D tp_CL (tp_wC h u.1 cI cZ u.2) t.heap ∧ va_D (va_A [(h, .inr (0, [.null, .null, .null, .null, .null, .null, .null, .int 0]))] sz) (tp_wC h u.1 cI cZ u.2)) (va_A [(h, .inr (0, [.null, .null, .null, .null, .null, .null, .null, .int 0]))] sz)) 7 2836 (va_A [(h, .inr (0, [.null, .null, .null, .null, .null, .null, .null, .int 0]))] sz) := by
  refine Met.ofW (cc := tp_bC_init) (maxL := 2) (ret := none) (by decide) rfl ?_
  intro p e s m args below meth c s₁ B hml hv
  obtain ⟨rfl, hsz, hP, hK, hD0⟩ := hv
  have hx := B.exec
  have hb := B.bytes
  have hrt := B.returns
  have hTB : ∀ w ∈ tp_TB, w.before _ s = true := fun w z => atoms_spec (ws := (tp_wsT tp_yC_init tp_bC_init 2 none)) B.pre w (List.mem_cons_of_mem _ z)
  have hown : s.vm.findClass tp_RC = some m.cls := findClass_of_methodNamed B.named
  have hlocks := B.notSynchronized
  have hin : meth.name = "<init>" := (name_of_methodNamed B.named B.method).1
  have S : CallFix p m c tp_bC_init 2 s _ tp_TB tp_RC := ⟨hx, hb, hml, hown, hTB⟩
  subst hsz
  have hD : va_D (va_A [(h, .inr (0, [.null, .null, .null, .null, .null, .null, .null, .int 0]))] s.heap.size) [(h, .inr (0, [.null, .null, .null, .null, .null, .null, .null, .int 0]))] := hD0.self
  have hA : ∀ q : Nat, s.heap.size ≤ q → va_A [(h, .inr (0, [.null, .null, .null, .null, .null, .null, .null, .int 0]))] s.heap.size q := fun q z => Or.inr z
  have hS : va_S (va_A [(h, .inr (0, [.null, .null, .null, .null, .null, .null, .null, .int 0]))] s.heap.size) s.heap s.heap [] := va_S.rf
  have hl := lv_entry ([.ref h]) (n := 2) (Nat.le_of_ble_eq_true rfl)
  rw [lg_entry_eq]
  generalize (lg_sl ([.ref h]) ++ List.replicate (2 - (lg_sl ([.ref h])).length) Slot.unset).toArray = ls at hl ⊢
  have hl : lv_has ls 2 [(0, .ref h)] := hl
  refine lv_aload_n hx hb dC_init_0 rfl (lv_at hl 0 rfl) ?_
  refine W.objInit hx hb hown (hTB _ tp_kO_C) (hTB _ tp_kO_in) (hTB _ tp_kO_cd) rfl (by rw [hml]; exact hl.1) rfl dC_init_1 (Nat.le_of_ble_eq_true rfl) (Nat.le_of_ble_eq_true rfl) ?_
  refine W.eq (g2 := F0 m 4 ls []) rfl ?_
  refine lv_aload_n hx hb dC_init_4 rfl (lv_at hl 0 rfl) ?_
  refine lv_bipush (v := 12) hx hb dC_init_5 (by decide) ?_
  refine tp_nwI (N' := 12) hx hb (hTB _ tp_kA_I) hK hP hD hS hA (by decide) (by decide) (by decide) (Nat.le_of_ble_eq_true rfl) (Nat.le_of_ble_eq_true rfl) dC_init_7 (fun q0 H hP hD hS => ?_)
  have hP : va_P D tp_CL [(h, .inr (0, [.null, .null, .null, .null, .null, .null, .null, .int 0])), (q0, .inl (cI, 12, .inl (fun _ => 0)))] H := hP
  have hD : va_D (va_A [(h, .inr (0, [.null, .null, .null, .null, .null, .null, .null, .int 0]))] s.heap.size) [(h, .inr (0, [.null, .null, .null, .null, .null, .null, .null, .int 0])), (q0, .inl (cI, 12, .inl (fun _ => 0)))] := hD
  refine va_putF (D := D) (ci := 0) (v := .ref q0) (ty := .array .int) (C := tp_RC) (T := tp_TC) (N := 8) hx hb hTB tp_inC tp_tyC tp_tyC_ok tp_nmC hown hK hP hD hS 0 rfl rfl 0 (by decide) (hTB _ tp_mC_f0) (fun _ z => z) rfl hin rfl (by decide +kernel) rfl rfl (Nat.le_of_ble_eq_true rfl) dC_init_9 (fun H locs hP hD hS => ?_)
  have hP : va_P D tp_CL [(h, .inr (0, [.ref q0, .null, .null, .null, .null, .null, .null, .int 0])), (q0, .inl (cI, 12, .inl (fun _ => 0)))] H := hP
  have hD : va_D (va_A [(h, .inr (0, [.null, .null, .null, .null, .null, .null, .null, .int 0]))] s.heap.size) [(h, .inr (0, [.ref q0, .null, .null, .null, .null, .null, .null, .int 0])), (q0, .inl (cI, 12, .inl (fun _ => 0)))] := hD
  refine lv_aload_n hx hb dC_init_12 rfl (lv_at hl 0 rfl) ?_
  refine lv_bipush (v := 12) hx hb dC_init_13 (by decide) ?_
  refine tp_nwI (N' := 12) hx hb (hTB _ tp_kA_I) hK hP hD hS hA (by decide) (by decide) (by decide) (Nat.le_of_ble_eq_true rfl) (Nat.le_of_ble_eq_true rfl) dC_init_15 (fun q1 H hP hD hS => ?_)
  have hP : va_P D tp_CL [(h, .inr (0, [.ref q0, .null, .null, .null, .null, .null, .null, .int 0])), (q0, .inl (cI, 12, .inl (fun _ => 0))), (q1, .inl (cI, 12, .inl (fun _ => 0)))] H := hP
  have hD : va_D (va_A [(h, .inr (0, [.null, .null, .null, .null, .null, .null, .null, .int 0]))] s.heap.size) [(h, .inr (0, [.ref q0, .null, .null, .null, .null, .null, .null, .int 0])), (q0, .inl (cI, 12, .inl (fun _ => 0))), (q1, .inl (cI, 12, .inl (fun _ => 0)))] := hD
  refine va_putF (D := D) (ci := 0) (v := .ref q1) (ty := .array .int) (C := tp_RC) (T := tp_TC) (N := 8) hx hb hTB tp_inC tp_tyC tp_tyC_ok tp_nmC hown hK hP hD hS 0 rfl rfl 1 (by decide) (hTB _ tp_mC_f1) (fun _ z => z) rfl hin rfl (by decide +kernel) rfl rfl (Nat.le_of_ble_eq_true rfl) dC_init_17 (fun H locs hP hD hS => ?_)
  have hP : va_P D tp_CL [(h, .inr (0, [.ref q0, .ref q1, .null, .null, .null, .null, .null, .int 0])), (q0, .inl (cI, 12, .inl (fun _ => 0))), (q1, .inl (cI, 12, .inl (fun _ => 0)))] H := hP
  have hD : va_D (va_A [(h, .inr (0, [.null, .null, .null, .null, .null, .null, .null, .int 0]))] s.heap.size) [(h, .inr (0, [.ref q0, .ref q1, .null, .null, .null, .null, .null, .int 0])), (q0, .inl (cI, 12, .inl (fun _ => 0))), (q1, .inl (cI, 12, .inl (fun _ => 0)))] := hD
  refine lv_aload_n hx hb dC_init_20 rfl (lv_at hl 0 rfl) ?_
  refine lv_bipush (v := 12) hx hb dC_init_21 (by decide) ?_
  refine tp_nwZ (N' := 12) hx hb (hTB _ tp_kA_Z) hK hP hD hS hA (by decide) (by decide) (by decide) (Nat.le_of_ble_eq_true rfl) (Nat.le_of_ble_eq_true rfl) dC_init_23 (fun q2 H hP hD hS => ?_)
  have hP : va_P D tp_CL [(h, .inr (0, [.ref q0, .ref q1, .null, .null, .null, .null, .null, .int 0])), (q0, .inl (cI, 12, .inl (fun _ => 0))), (q1, .inl (cI, 12, .inl (fun _ => 0))), (q2, .inl (cZ, 12, .inl (fun _ => 0)))] H := hP
  have hD : va_D (va_A [(h, .inr (0, [.null, .null, .null, .null, .null, .null, .null, .int 0]))] s.heap.size) [(h, .inr (0, [.ref q0, .ref q1, .null, .null, .null, .null, .null, .int 0])), (q0, .inl (cI, 12, .inl (fun _ => 0))), (q1, .inl (cI, 12, .inl (fun _ => 0))), (q2, .inl (cZ, 12, .inl (fun _ => 0)))] := hD
  refine va_putF (D := D) (ci := 0) (v := .ref q2) (ty := .array .boolean) (C := tp_RC) (T := tp_TC) (N := 8) hx hb hTB tp_inC tp_tyC tp_tyC_ok tp_nmC hown hK hP hD hS 0 rfl rfl 2 (by decide) (hTB _ tp_mC_f2) (fun _ z => z) rfl hin rfl (by decide +kernel) rfl rfl (Nat.le_of_ble_eq_true rfl) dC_init_25 (fun H locs hP hD hS => ?_)
  have hP : va_P D tp_CL [(h, .inr (0, [.ref q0, .ref q1, .ref q2, .null, .null, .null, .null, .int 0])), (q0, .inl (cI, 12, .inl (fun _ => 0))), (q1, .inl (cI, 12, .inl (fun _ => 0))), (q2, .inl (cZ, 12, .inl (fun _ => 0)))] H := hP
  have hD : va_D (va_A [(h, .inr (0, [.null, .null, .null, .null, .null, .null, .null, .int 0]))] s.heap.size) [(h, .inr (0, [.ref q0, .ref q1, .ref q2, .null, .null, .null, .null, .int 0])), (q0, .inl (cI, 12, .inl (fun _ => 0))), (q1, .inl (cI, 12, .inl (fun _ => 0))), (q2, .inl (cZ, 12, .inl (fun _ => 0)))] := hD
  refine lv_aload_n hx hb dC_init_28 rfl (lv_at hl 0 rfl) ?_
  refine lv_sipush (v := 400) hx hb dC_init_29 (by decide) ?_
  refine tp_nwZ (N' := 400) hx hb (hTB _ tp_kA_Z) hK hP hD hS hA (by decide) (by decide) (by decide) (Nat.le_of_ble_eq_true rfl) (Nat.le_of_ble_eq_true rfl) dC_init_32 (fun q3 H hP hD hS => ?_)
  have hP : va_P D tp_CL [(h, .inr (0, [.ref q0, .ref q1, .ref q2, .null, .null, .null, .null, .int 0])), (q0, .inl (cI, 12, .inl (fun _ => 0))), (q1, .inl (cI, 12, .inl (fun _ => 0))), (q2, .inl (cZ, 12, .inl (fun _ => 0))), (q3, .inl (cZ, 400, .inl (fun _ => 0)))] H := hP
  have hD : va_D (va_A [(h, .inr (0, [.null, .null, .null, .null, .null, .null, .null, .int 0]))] s.heap.size) [(h, .inr (0, [.ref q0, .ref q1, .ref q2, .null, .null, .null, .null, .int 0])), (q0, .inl (cI, 12, .inl (fun _ => 0))), (q1, .inl (cI, 12, .inl (fun _ => 0))), (q2, .inl (cZ, 12, .inl (fun _ => 0))), (q3, .inl (cZ, 400, .inl (fun _ => 0)))] := hD
  refine va_putF (D := D) (ci := 0) (v := .ref q3) (ty := .array .boolean) (C := tp_RC) (T := tp_TC) (N := 8) hx hb hTB tp_inC tp_tyC tp_tyC_ok tp_nmC hown hK hP hD hS 0 rfl rfl 3 (by decide) (hTB _ tp_mC_f3) (fun _ z => z) rfl hin rfl (by decide +kernel) rfl rfl (Nat.le_of_ble_eq_true rfl) dC_init_34 (fun H locs hP hD hS => ?_)
  have hP : va_P D tp_CL [(h, .inr (0, [.ref q0, .ref q1, .ref q2, .ref q3, .null, .null, .null, .int 0])), (q0, .inl (cI, 12, .inl (fun _ => 0))), (q1, .inl (cI, 12, .inl (fun _ => 0))), (q2, .inl (cZ, 12, .inl (fun _ => 0))), (q3, .inl (cZ, 400, .inl (fun _ => 0)))] H := hP
  have hD : va_D (va_A [(h, .inr (0, [.null, .null, .null, .null, .null, .null, .null, .int 0]))] s.heap.size) [(h, .inr (0, [.ref q0, .ref q1, .ref q2, .ref q3, .null, .null, .null, .int 0])), (q0, .inl (cI, 12, .inl (fun _ => 0))), (q1, .inl (cI, 12, .inl (fun _ => 0))), (q2, .inl (cZ, 12, .inl (fun _ => 0))), (q3, .inl (cZ, 400, .inl (fun _ => 0)))] := hD
  refine lv_aload_n hx hb dC_init_37 rfl (lv_at hl 0 rfl) ?_
  refine lv_sipush (v := 400) hx hb dC_init_38 (by decide) ?_
  refine tp_nwI (N' := 400) hx hb (hTB _ tp_kA_I) hK hP hD hS hA (by decide) (by decide) (by decide) (Nat.le_of_ble_eq_true rfl) (Nat.le_of_ble_eq_true rfl) dC_init_41 (fun q4 H hP hD hS => ?_)
  have hP : va_P D tp_CL [(h, .inr (0, [.ref q0, .ref q1, .ref q2, .ref q3, .null, .null, .null, .int 0])), (q0, .inl (cI, 12, .inl (fun _ => 0))), (q1, .inl (cI, 12, .inl (fun _ => 0))), (q2, .inl (cZ, 12, .inl (fun _ => 0))), (q3, .inl (cZ, 400, .inl (fun _ => 0))), (q4, .inl (cI, 400, .inl (fun _ => 0)))] H := hP
  have hD : va_D (va_A [(h, .inr (0, [.null, .null, .null, .null, .null, .null, .null, .int 0]))] s.heap.size) [(h, .inr (0, [.ref q0, .ref q1, .ref q2, .ref q3, .null, .null, .null, .int 0])), (q0, .inl (cI, 12, .inl (fun _ => 0))), (q1, .inl (cI, 12, .inl (fun _ => 0))), (q2, .inl (cZ, 12, .inl (fun _ => 0))), (q3, .inl (cZ, 400, .inl (fun _ => 0))), (q4, .inl (cI, 400, .inl (fun _ => 0)))] := hD
  refine va_putF (D := D) (ci := 0) (v := .ref q4) (ty := .array .int) (C := tp_RC) (T := tp_TC) (N := 8) hx hb hTB tp_inC tp_tyC tp_tyC_ok tp_nmC hown hK hP hD hS 0 rfl rfl 4 (by decide) (hTB _ tp_mC_f4) (fun _ z => z) rfl hin rfl (by decide +kernel) rfl rfl (Nat.le_of_ble_eq_true rfl) dC_init_43 (fun H locs hP hD hS => ?_)
  have hP : va_P D tp_CL [(h, .inr (0, [.ref q0, .ref q1, .ref q2, .ref q3, .ref q4, .null, .null, .int 0])), (q0, .inl (cI, 12, .inl (fun _ => 0))), (q1, .inl (cI, 12, .inl (fun _ => 0))), (q2, .inl (cZ, 12, .inl (fun _ => 0))), (q3, .inl (cZ, 400, .inl (fun _ => 0))), (q4, .inl (cI, 400, .inl (fun _ => 0)))] H := hP
  have hD : va_D (va_A [(h, .inr (0, [.null, .null, .null, .null, .null, .null, .null, .int 0]))] s.heap.size) [(h, .inr (0, [.ref q0, .ref q1, .ref q2, .ref q3, .ref q4, .null, .null, .int 0])), (q0, .inl (cI, 12, .inl (fun _ => 0))), (q1, .inl (cI, 12, .inl (fun _ => 0))), (q2, .inl (cZ, 12, .inl (fun _ => 0))), (q3, .inl (cZ, 400, .inl (fun _ => 0))), (q4, .inl (cI, 400, .inl (fun _ => 0)))] := hD
  refine lv_aload_n hx hb dC_init_46 rfl (lv_at hl 0 rfl) ?_
  refine lv_sipush (v := 400) hx hb dC_init_47 (by decide) ?_
  refine tp_nwI (N' := 400) hx hb (hTB _ tp_kA_I) hK hP hD hS hA (by decide) (by decide) (by decide) (Nat.le_of_ble_eq_true rfl) (Nat.le_of_ble_eq_true rfl) dC_init_50 (fun q5 H hP hD hS => ?_)
  have hP : va_P D tp_CL [(h, .inr (0, [.ref q0, .ref q1, .ref q2, .ref q3, .ref q4, .null, .null, .int 0])), (q0, .inl (cI, 12, .inl (fun _ => 0))), (q1, .inl (cI, 12, .inl (fun _ => 0))), (q2, .inl (cZ, 12, .inl (fun _ => 0))), (q3, .inl (cZ, 400, .inl (fun _ => 0))), (q4, .inl (cI, 400, .inl (fun _ => 0))), (q5, .inl (cI, 400, .inl (fun _ => 0)))] H := hP
  have hD : va_D (va_A [(h, .inr (0, [.null, .null, .null, .null, .null, .null, .null, .int 0]))] s.heap.size) [(h, .inr (0, [.ref q0, .ref q1, .ref q2, .ref q3, .ref q4, .null, .null, .int 0])), (q0, .inl (cI, 12, .inl (fun _ => 0))), (q1, .inl (cI, 12, .inl (fun _ => 0))), (q2, .inl (cZ, 12, .inl (fun _ => 0))), (q3, .inl (cZ, 400, .inl (fun _ => 0))), (q4, .inl (cI, 400, .inl (fun _ => 0))), (q5, .inl (cI, 400, .inl (fun _ => 0)))] := hD
  refine va_putF (D := D) (ci := 0) (v := .ref q5) (ty := .array .int) (C := tp_RC) (T := tp_TC) (N := 8) hx hb hTB tp_inC tp_tyC tp_tyC_ok tp_nmC hown hK hP hD hS 0 rfl rfl 5 (by decide) (hTB _ tp_mC_f5) (fun _ z => z) rfl hin rfl (by decide +kernel) rfl rfl (Nat.le_of_ble_eq_true rfl) dC_init_52 (fun H locs hP hD hS => ?_)
  have hP : va_P D tp_CL [(h, .inr (0, [.ref q0, .ref q1, .ref q2, .ref q3, .ref q4, .ref q5, .null, .int 0])), (q0, .inl (cI, 12, .inl (fun _ => 0))), (q1, .inl (cI, 12, .inl (fun _ => 0))), (q2, .inl (cZ, 12, .inl (fun _ => 0))), (q3, .inl (cZ, 400, .inl (fun _ => 0))), (q4, .inl (cI, 400, .inl (fun _ => 0))), (q5, .inl (cI, 400, .inl (fun _ => 0)))] H := hP
  have hD : va_D (va_A [(h, .inr (0, [.null, .null, .null, .null, .null, .null, .null, .int 0]))] s.heap.size) [(h, .inr (0, [.ref q0, .ref q1, .ref q2, .ref q3, .ref q4, .ref q5, .null, .int 0])), (q0, .inl (cI, 12, .inl (fun _ => 0))), (q1, .inl (cI, 12, .inl (fun _ => 0))), (q2, .inl (cZ, 12, .inl (fun _ => 0))), (q3, .inl (cZ, 400, .inl (fun _ => 0))), (q4, .inl (cI, 400, .inl (fun _ => 0))), (q5, .inl (cI, 400, .inl (fun _ => 0)))] := hD
  refine lv_aload_n hx hb dC_init_55 rfl (lv_at hl 0 rfl) ?_
  refine lv_sipush (v := 1600) hx hb dC_init_56 (by decide) ?_
  refine tp_nwI (N' := 1600) hx hb (hTB _ tp_kA_I) hK hP hD hS hA (by decide) (by decide) (by decide) (Nat.le_of_ble_eq_true rfl) (Nat.le_of_ble_eq_true rfl) dC_init_59 (fun q6 H hP hD hS => ?_)
  have hP : va_P D tp_CL [(h, .inr (0, [.ref q0, .ref q1, .ref q2, .ref q3, .ref q4, .ref q5, .null, .int 0])), (q0, .inl (cI, 12, .inl (fun _ => 0))), (q1, .inl (cI, 12, .inl (fun _ => 0))), (q2, .inl (cZ, 12, .inl (fun _ => 0))), (q3, .inl (cZ, 400, .inl (fun _ => 0))), (q4, .inl (cI, 400, .inl (fun _ => 0))), (q5, .inl (cI, 400, .inl (fun _ => 0))), (q6, .inl (cI, 1600, .inl (fun _ => 0)))] H := hP
  have hD : va_D (va_A [(h, .inr (0, [.null, .null, .null, .null, .null, .null, .null, .int 0]))] s.heap.size) [(h, .inr (0, [.ref q0, .ref q1, .ref q2, .ref q3, .ref q4, .ref q5, .null, .int 0])), (q0, .inl (cI, 12, .inl (fun _ => 0))), (q1, .inl (cI, 12, .inl (fun _ => 0))), (q2, .inl (cZ, 12, .inl (fun _ => 0))), (q3, .inl (cZ, 400, .inl (fun _ => 0))), (q4, .inl (cI, 400, .inl (fun _ => 0))), (q5, .inl (cI, 400, .inl (fun _ => 0))), (q6, .inl (cI, 1600, .inl (fun _ => 0)))] := hD
  refine va_putF (D := D) (ci := 0) (v := .ref q6) (ty := .array .int) (C := tp_RC) (T := tp_TC) (N := 8) hx hb hTB tp_inC tp_tyC tp_tyC_ok tp_nmC hown hK hP hD hS 0 rfl rfl 6 (by decide) (hTB _ tp_mC_f6) (fun _ z => z) rfl hin rfl (by decide +kernel) rfl rfl (Nat.le_of_ble_eq_true rfl) dC_init_61 (fun H locs hP hD hS => ?_)
  have hP : va_P D tp_CL [(h, .inr (0, [.ref q0, .ref q1, .ref q2, .ref q3, .ref q4, .ref q5, .ref q6, .int 0])), (q0, .inl (cI, 12, .inl (fun _ => 0))), (q1, .inl (cI, 12, .inl (fun _ => 0))), (q2, .inl (cZ, 12, .inl (fun _ => 0))), (q3, .inl (cZ, 400, .inl (fun _ => 0))), (q4, .inl (cI, 400, .inl (fun _ => 0))), (q5, .inl (cI, 400, .inl (fun _ => 0))), (q6, .inl (cI, 1600, .inl (fun _ => 0)))] H := hP
  have hD : va_D (va_A [(h, .inr (0, [.null, .null, .null, .null, .null, .null, .null, .int 0]))] s.heap.size) [(h, .inr (0, [.ref q0, .ref q1, .ref q2, .ref q3, .ref q4, .ref q5, .ref q6, .int 0])), (q0, .inl (cI, 12, .inl (fun _ => 0))), (q1, .inl (cI, 12, .inl (fun _ => 0))), (q2, .inl (cZ, 12, .inl (fun _ => 0))), (q3, .inl (cZ, 400, .inl (fun _ => 0))), (q4, .inl (cI, 400, .inl (fun _ => 0))), (q5, .inl (cI, 400, .inl (fun _ => 0))), (q6, .inl (cI, 1600, .inl (fun _ => 0)))] := hD
  refine lv_aload_n hx hb dC_init_64 rfl (lv_at hl 0 rfl) ?_
  refine lv_iconst (v := 0) hx hb dC_init_65 (by decide) ?_
  refine va_put (D := D) (ci := 0) (v := .int 0) (ty := .int) (C := tp_RC) (T := tp_TC) (N := 8) hx hb hTB tp_inC tp_tyC tp_tyC_ok tp_nmC hown hK hP hD hS 0 rfl rfl 7 (by decide) (hTB _ tp_mC_f7) (fun _ z => z) rfl (by decide +kernel) rfl rfl (Nat.le_of_ble_eq_true rfl) dC_init_66 (fun H locs hP hD hS => ?_)
  have hP : va_P D tp_CL [(h, .inr (0, [.ref q0, .ref q1, .ref q2, .ref q3, .ref q4, .ref q5, .ref q6, .int 0])), (q0, .inl (cI, 12, .inl (fun _ => 0))), (q1, .inl (cI, 12, .inl (fun _ => 0))), (q2, .inl (cZ, 12, .inl (fun _ => 0))), (q3, .inl (cZ, 400, .inl (fun _ => 0))), (q4, .inl (cI, 400, .inl (fun _ => 0))), (q5, .inl (cI, 400, .inl (fun _ => 0))), (q6, .inl (cI, 1600, .inl (fun _ => 0)))] H := hP
  have hD : va_D (va_A [(h, .inr (0, [.null, .null, .null, .null, .null, .null, .null, .int 0]))] s.heap.size) [(h, .inr (0, [.ref q0, .ref q1, .ref q2, .ref q3, .ref q4, .ref q5, .ref q6, .int 0])), (q0, .inl (cI, 12, .inl (fun _ => 0))), (q1, .inl (cI, 12, .inl (fun _ => 0))), (q2, .inl (cZ, 12, .inl (fun _ => 0))), (q3, .inl (cZ, 400, .inl (fun _ => 0))), (q4, .inl (cI, 400, .inl (fun _ => 0))), (q5, .inl (cI, 400, .inl (fun _ => 0))), (q6, .inl (cI, 1600, .inl (fun _ => 0)))] := hD
  obtain ⟨a, ea⟩ : ∃ a : Nat → Nat, q0 = a 0 ∧ q1 = a 1 ∧ q2 = a 2 ∧ q3 = a 3 ∧ q4 = a 4 ∧ q5 = a 5 ∧ q6 = a 6 := ⟨fun k => match k with | 0 => q0 | 1 => q1 | 2 => q2 | 3 => q3 | 4 => q4 | 5 => q5 | 6 => q6 | _ => 0, rfl, rfl, rfl, rfl, rfl, rfl, rfl⟩
  obtain ⟨rfl, rfl, rfl, rfl, rfl, rfl, rfl⟩ := ea
  have hP : va_P D tp_CL (tp_wC h a cI cZ (fun _ _ => 0)) H := hP
  have hD : va_D (va_A [(h, .inr (0, [.null, .null, .null, .null, .null, .null, .null, .int 0]))] s.heap.size) (tp_wC h a cI cZ (fun _ _ => 0)) := hD
  have loop : ∀ (n i : Nat) (σ : tp_St) (H : Heap) (locs : List Loc) (ls : Array Slot), i + n = 400 → (∀ d, d < 12 → σ 0 d = 0 ∧ σ 1 d = 0 ∧ σ 2 d = 0) → (∀ c, c < 400 → σ 3 c = 0) → (∀ c, c < i → σ 4 c = -1 ∧ σ 5 c = -1) → (∀ k, k < 1600 → σ 6 k = 0) → σ 7 0 = 0 → lv_has ls 2 [(1, .int (tp_nI i)), (0, .ref h)] → va_P D tp_CL (tp_wC h a cI cZ σ) H → va_D (va_A [(h, .inr (0, [.null, .null, .null, .null, .null, .null, .null, .int 0]))] s.heap.size) (tp_wC h a cI cZ σ) → va_S (va_A [(h, .inr (0, [.null, .null, .null, .null, .null, .null, .null, .int 0]))] s.heap.size) s.heap H locs → W p l e { frames := 1, cells := 7, slots := 2836, locals := 20 } s m (([.ref h] : List Value).toArray) below meth c H locs 7 2836 (MQ below (va_Qv (fun u : (Nat → Nat) × tp_St => tp_startC u.2) (fun u t => va_P D tp_CL (tp_wC h u.1 cI cZ u.2) t.heap ∧ va_D (va_A [(h, .inr (0, [.null, .null, .null, .null, .null, .null, .null, .int 0]))] s.heap.size) (tp_wC h u.1 cI cZ u.2)) (va_A [(h, .inr (0, [.null, .null, .null, .null, .null, .null, .null, .int 0]))] s.heap.size)) (([.ref h] : List Value).toArray) s 7 2836 (va_A [(h, .inr (0, [.null, .null, .null, .null, .null, .null, .null, .int 0]))] s.heap.size)) (F0 m 71 ls []) := by
    intro n
    induction n with
    | zero =>
      intro i σ H locs ls hi h0 h3 h4 h6 h7 hl hP hD hS
      obtain rfl : i = 400 := by omega
      refine lv_iload_n hx hb dC_init_71 rfl (lv_at hl 0 rfl) ?_
      refine lv_sipush (v := 400) hx hb dC_init_72 (by decide) ?_
      refine lv_icmp_ge (tgt := 98) hx hb dC_init_75 (by decide) (fun _ => ?_) (fun z => absurd (by decide) z)
      exact W.vret hx hb hrt (fun t ht _ => ⟨⟨(a, σ), rfl, ⟨h0, fun c hc => ⟨h3 c hc, h4 c hc⟩, h6, h7⟩, (show va_P D tp_CL _ t.heap ∧ _ from ⟨by rw [ht]; exact hP, hD⟩)⟩, hS.F ht⟩) hS.2.2 dC_init_98 hlocks
    | succ n ih =>
      intro i σ H locs ls hi h0 h3 h4 h6 h7 hl hP hD hS
      have hi4 : i < 400 := by omega
      have hlt : ¬ (400 : Int32) ≤ tp_nI i := tp_g4 hi4
      have hnb : ¬ tp_oob (tp_nI i) 400 := tp_b4 hi4
      have e9 : (tp_nI i).toNatClampNeg = i := tp_t4 hi4
      refine lv_iload_n hx hb dC_init_71 rfl (lv_at hl 0 rfl) ?_
      refine lv_sipush (v := 400) hx hb dC_init_72 (by decide) ?_
      refine lv_icmp_ge (tgt := 98) hx hb dC_init_75 (by decide) (fun z => absurd z hlt) (fun _ => ?_)
      refine lv_aload_n hx hb dC_init_78 rfl (lv_at hl 1 rfl) ?_
      refine tp_gtC S hK hP 4 (by decide) (v := .ref (a 4)) tp_mC_f4 rfl dC_init_79 ?_
      refine lv_iload_n hx hb dC_init_82 rfl (lv_at hl 0 rfl) ?_
      refine lv_iconst (v := (-1)) hx hb dC_init_83 (by decide) ?_
      refine va_iast hx hb hK hP hD hS 5 0 rfl rfl hnb dC_init_84 (fun H locs hP hD hS => ?_)
      have hP : va_P D tp_CL (tp_wC h a cI cZ (tp_up σ 4 (tp_nI i).toNatClampNeg (-1))) H := hP
      have hD : va_D (va_A [(h, .inr (0, [.null, .null, .null, .null, .null, .null, .null, .int 0]))] s.heap.size) (tp_wC h a cI cZ (tp_up σ 4 (tp_nI i).toNatClampNeg (-1))) := hD
      refine lv_aload_n hx hb dC_init_85 rfl (lv_at hl 1 rfl) ?_
      refine tp_gtC S hK hP 5 (by decide) (v := .ref (a 5)) tp_mC_f5 rfl dC_init_86 ?_
      refine lv_iload_n hx hb dC_init_89 rfl (lv_at hl 0 rfl) ?_
      refine lv_iconst (v := (-1)) hx hb dC_init_90 (by decide) ?_
      refine va_iast hx hb hK hP hD hS 6 0 rfl rfl hnb dC_init_91 (fun H locs hP hD hS => ?_)
      have hP : va_P D tp_CL (tp_wC h a cI cZ (tp_up (tp_up σ 4 (tp_nI i).toNatClampNeg (-1)) 5 (tp_nI i).toNatClampNeg (-1))) H := hP
      have hD : va_D (va_A [(h, .inr (0, [.null, .null, .null, .null, .null, .null, .null, .int 0]))] s.heap.size) (tp_wC h a cI cZ (tp_up (tp_up σ 4 (tp_nI i).toNatClampNeg (-1)) 5 (tp_nI i).toNatClampNeg (-1))) := hD
      refine lv_iinc (k := 0) (v := tp_nI (i + 1)) hx hb dC_init_92 hl rfl ((tp_ii1 _).trans (tp_nI_s i)) (by decide) rfl (fun ls hl => ?_)
      refine lv_goto (tgt := 71) hx hb dC_init_95 (by decide) ?_
      rw [e9] at hP hD
      exact ih (i + 1) (tp_up (tp_up σ 4 i (-1)) 5 i (-1)) H locs ls (by omega) h0 h3 (fun c hc => by
        show (if c = i then (-1 : Int32) else σ 4 c) = -1 ∧ (if c = i then (-1 : Int32) else σ 5 c) = -1
        by_cases z : c = i
        · rw [if_pos z, if_pos z]; exact ⟨rfl, rfl⟩
        · rw [if_neg z, if_neg z]; exact h4 c (by omega)) h6 h7 hl hP hD hS
  refine lv_iconst (v := 0) hx hb dC_init_69 (by decide) ?_
  refine lv_istore_n hx hb dC_init_70 rfl hl (by decide) rfl (fun ls hl => ?_)
  exact loop 400 0 (fun _ _ => 0) H locs ls rfl (fun _ _ => ⟨rfl, rfl, rfl⟩) (fun _ _ => rfl) (fun _ z => absurd z (Nat.not_lt_zero _)) (fun _ _ => rfl) rfl hl hP hD hS
theorem tp_kO_M : Cond.methodLink tp_RM 1 Lib.objectInit ∈ tp_TB := tp_TB_1 (by decide +kernel)
set_option maxHeartbeats 4000000 in
set_option maxRecDepth 100000 in
theorem cM_init (l : Launch) (D : va_G) (h : Nat) (cI cZ : ClassId) (sz : Nat) : Met l tp_yM_init (tp_wsT tp_yM_init tp_bM_init 1 none) { frames := 1, cells := 5, slots := 2424, locals := 20 } (tp_PcW D [(cI, .int), (cZ, .boolean)] [(h, .inr (1, [.int 0, .null, .null, .null, .null, .null, .int 0]))] sz [.ref h]) (va_Qv (fun u : (Nat → Nat) × tp_St => tp_startM u.2) (fun u t => va_P D tp_CL (tp_wM h u.1 cI cZ u.2) t.heap ∧ va_D (va_A [(h, .inr (1, [.int 0, .null, .null, .null, .null, .null, .int 0]))] sz) (tp_wM h u.1 cI cZ u.2)) (va_A [(h, .inr (1, [.int 0, .null, .null, .null, .null, .null, .int 0]))] sz)) 5 2424 (va_A [(h, .inr (1, [.int 0, .null, .null, .null, .null, .null, .int 0]))] sz) := by
  refine Met.ofW (cc := tp_bM_init) (maxL := 1) (ret := none) (by decide) rfl ?_
  intro p e s m args below meth c s₁ B hml hv
  obtain ⟨rfl, hsz, hP, hK, hD0⟩ := hv
  have hx := B.exec
  have hb := B.bytes
  have hrt := B.returns
  have hTB : ∀ w ∈ tp_TB, w.before _ s = true := fun w z => atoms_spec (ws := (tp_wsT tp_yM_init tp_bM_init 1 none)) B.pre w (List.mem_cons_of_mem _ z)
  have hown : s.vm.findClass tp_RM = some m.cls := findClass_of_methodNamed B.named
  have hlocks := B.notSynchronized
  have hin : meth.name = "<init>" := (name_of_methodNamed B.named B.method).1
  have S : CallFix p m c tp_bM_init 1 s _ tp_TB tp_RM := ⟨hx, hb, hml, hown, hTB⟩
  subst hsz
  have hD : va_D (va_A [(h, .inr (1, [.int 0, .null, .null, .null, .null, .null, .int 0]))] s.heap.size) [(h, .inr (1, [.int 0, .null, .null, .null, .null, .null, .int 0]))] := hD0.self
  have hA : ∀ q : Nat, s.heap.size ≤ q → va_A [(h, .inr (1, [.int 0, .null, .null, .null, .null, .null, .int 0]))] s.heap.size q := fun q z => Or.inr z
  have hS : va_S (va_A [(h, .inr (1, [.int 0, .null, .null, .null, .null, .null, .int 0]))] s.heap.size) s.heap s.heap [] := va_S.rf
  have hl := lv_entry ([.ref h]) (n := 1) (Nat.le_of_ble_eq_true rfl)
  rw [lg_entry_eq]
  generalize (lg_sl ([.ref h]) ++ List.replicate (1 - (lg_sl ([.ref h])).length) Slot.unset).toArray = ls at hl ⊢
  have hl : lv_has ls 1 [(0, .ref h)] := hl
  refine lv_aload_n hx hb dM_init_0 rfl (lv_at hl 0 rfl) ?_
  refine W.objInit hx hb hown (hTB _ tp_kO_M) (hTB _ tp_kO_in) (hTB _ tp_kO_cd) rfl (by rw [hml]; exact hl.1) rfl dM_init_1 (Nat.le_of_ble_eq_true rfl) (Nat.le_of_ble_eq_true rfl) ?_
  refine W.eq (g2 := F0 m 4 ls []) rfl ?_
  refine lv_aload_n hx hb dM_init_4 rfl (lv_at hl 0 rfl) ?_
  refine lv_bipush (v := 12) hx hb dM_init_5 (by decide) ?_
  refine tp_nwI (N' := 12) hx hb (hTB _ tp_kA_I) hK hP hD hS hA (by decide) (by decide) (by decide) (Nat.le_of_ble_eq_true rfl) (Nat.le_of_ble_eq_true rfl) dM_init_7 (fun q1 H hP hD hS => ?_)
  have hP : va_P D tp_CL [(h, .inr (1, [.int 0, .null, .null, .null, .null, .null, .int 0])), (q1, .inl (cI, 12, .inl (fun _ => 0)))] H := hP
  have hD : va_D (va_A [(h, .inr (1, [.int 0, .null, .null, .null, .null, .null, .int 0]))] s.heap.size) [(h, .inr (1, [.int 0, .null, .null, .null, .null, .null, .int 0])), (q1, .inl (cI, 12, .inl (fun _ => 0)))] := hD
  refine va_putF (D := D) (ci := 1) (v := .ref q1) (ty := .array .int) (C := tp_RM) (T := tp_TM) (N := 7) hx hb hTB tp_inM tp_tyM tp_tyM_ok tp_nmM hown hK hP hD hS 0 rfl rfl 1 (by decide) (hTB _ tp_mM_f1) (fun _ z => z) rfl hin rfl (by decide +kernel) rfl rfl (Nat.le_of_ble_eq_true rfl) dM_init_9 (fun H locs hP hD hS => ?_)
  have hP : va_P D tp_CL [(h, .inr (1, [.int 0, .ref q1, .null, .null, .null, .null, .int 0])), (q1, .inl (cI, 12, .inl (fun _ => 0)))] H := hP
  have hD : va_D (va_A [(h, .inr (1, [.int 0, .null, .null, .null, .null, .null, .int 0]))] s.heap.size) [(h, .inr (1, [.int 0, .ref q1, .null, .null, .null, .null, .int 0])), (q1, .inl (cI, 12, .inl (fun _ => 0)))] := hD
  refine lv_aload_n hx hb dM_init_12 rfl (lv_at hl 0 rfl) ?_
  refine lv_bipush (v := 12) hx hb dM_init_13 (by decide) ?_
  refine tp_nwZ (N' := 12) hx hb (hTB _ tp_kA_Z) hK hP hD hS hA (by decide) (by decide) (by decide) (Nat.le_of_ble_eq_true rfl) (Nat.le_of_ble_eq_true rfl) dM_init_15 (fun q2 H hP hD hS => ?_)
  have hP : va_P D tp_CL [(h, .inr (1, [.int 0, .ref q1, .null, .null, .null, .null, .int 0])), (q1, .inl (cI, 12, .inl (fun _ => 0))), (q2, .inl (cZ, 12, .inl (fun _ => 0)))] H := hP
  have hD : va_D (va_A [(h, .inr (1, [.int 0, .null, .null, .null, .null, .null, .int 0]))] s.heap.size) [(h, .inr (1, [.int 0, .ref q1, .null, .null, .null, .null, .int 0])), (q1, .inl (cI, 12, .inl (fun _ => 0))), (q2, .inl (cZ, 12, .inl (fun _ => 0)))] := hD
  refine va_putF (D := D) (ci := 1) (v := .ref q2) (ty := .array .boolean) (C := tp_RM) (T := tp_TM) (N := 7) hx hb hTB tp_inM tp_tyM tp_tyM_ok tp_nmM hown hK hP hD hS 0 rfl rfl 2 (by decide) (hTB _ tp_mM_f2) (fun _ z => z) rfl hin rfl (by decide +kernel) rfl rfl (Nat.le_of_ble_eq_true rfl) dM_init_17 (fun H locs hP hD hS => ?_)
  have hP : va_P D tp_CL [(h, .inr (1, [.int 0, .ref q1, .ref q2, .null, .null, .null, .int 0])), (q1, .inl (cI, 12, .inl (fun _ => 0))), (q2, .inl (cZ, 12, .inl (fun _ => 0)))] H := hP
  have hD : va_D (va_A [(h, .inr (1, [.int 0, .null, .null, .null, .null, .null, .int 0]))] s.heap.size) [(h, .inr (1, [.int 0, .ref q1, .ref q2, .null, .null, .null, .int 0])), (q1, .inl (cI, 12, .inl (fun _ => 0))), (q2, .inl (cZ, 12, .inl (fun _ => 0)))] := hD
  refine lv_aload_n hx hb dM_init_20 rfl (lv_at hl 0 rfl) ?_
  refine lv_sipush (v := 400) hx hb dM_init_21 (by decide) ?_
  refine tp_nwZ (N' := 400) hx hb (hTB _ tp_kA_Z) hK hP hD hS hA (by decide) (by decide) (by decide) (Nat.le_of_ble_eq_true rfl) (Nat.le_of_ble_eq_true rfl) dM_init_24 (fun q3 H hP hD hS => ?_)
  have hP : va_P D tp_CL [(h, .inr (1, [.int 0, .ref q1, .ref q2, .null, .null, .null, .int 0])), (q1, .inl (cI, 12, .inl (fun _ => 0))), (q2, .inl (cZ, 12, .inl (fun _ => 0))), (q3, .inl (cZ, 400, .inl (fun _ => 0)))] H := hP
  have hD : va_D (va_A [(h, .inr (1, [.int 0, .null, .null, .null, .null, .null, .int 0]))] s.heap.size) [(h, .inr (1, [.int 0, .ref q1, .ref q2, .null, .null, .null, .int 0])), (q1, .inl (cI, 12, .inl (fun _ => 0))), (q2, .inl (cZ, 12, .inl (fun _ => 0))), (q3, .inl (cZ, 400, .inl (fun _ => 0)))] := hD
  refine va_putF (D := D) (ci := 1) (v := .ref q3) (ty := .array .boolean) (C := tp_RM) (T := tp_TM) (N := 7) hx hb hTB tp_inM tp_tyM tp_tyM_ok tp_nmM hown hK hP hD hS 0 rfl rfl 3 (by decide) (hTB _ tp_mM_f3) (fun _ z => z) rfl hin rfl (by decide +kernel) rfl rfl (Nat.le_of_ble_eq_true rfl) dM_init_26 (fun H locs hP hD hS => ?_)
  have hP : va_P D tp_CL [(h, .inr (1, [.int 0, .ref q1, .ref q2, .ref q3, .null, .null, .int 0])), (q1, .inl (cI, 12, .inl (fun _ => 0))), (q2, .inl (cZ, 12, .inl (fun _ => 0))), (q3, .inl (cZ, 400, .inl (fun _ => 0)))] H := hP
  have hD : va_D (va_A [(h, .inr (1, [.int 0, .null, .null, .null, .null, .null, .int 0]))] s.heap.size) [(h, .inr (1, [.int 0, .ref q1, .ref q2, .ref q3, .null, .null, .int 0])), (q1, .inl (cI, 12, .inl (fun _ => 0))), (q2, .inl (cZ, 12, .inl (fun _ => 0))), (q3, .inl (cZ, 400, .inl (fun _ => 0)))] := hD
  refine lv_aload_n hx hb dM_init_29 rfl (lv_at hl 0 rfl) ?_
  refine lv_sipush (v := 400) hx hb dM_init_30 (by decide) ?_
  refine tp_nwI (N' := 400) hx hb (hTB _ tp_kA_I) hK hP hD hS hA (by decide) (by decide) (by decide) (Nat.le_of_ble_eq_true rfl) (Nat.le_of_ble_eq_true rfl) dM_init_33 (fun q4 H hP hD hS => ?_)
  have hP : va_P D tp_CL [(h, .inr (1, [.int 0, .ref q1, .ref q2, .ref q3, .null, .null, .int 0])), (q1, .inl (cI, 12, .inl (fun _ => 0))), (q2, .inl (cZ, 12, .inl (fun _ => 0))), (q3, .inl (cZ, 400, .inl (fun _ => 0))), (q4, .inl (cI, 400, .inl (fun _ => 0)))] H := hP
  have hD : va_D (va_A [(h, .inr (1, [.int 0, .null, .null, .null, .null, .null, .int 0]))] s.heap.size) [(h, .inr (1, [.int 0, .ref q1, .ref q2, .ref q3, .null, .null, .int 0])), (q1, .inl (cI, 12, .inl (fun _ => 0))), (q2, .inl (cZ, 12, .inl (fun _ => 0))), (q3, .inl (cZ, 400, .inl (fun _ => 0))), (q4, .inl (cI, 400, .inl (fun _ => 0)))] := hD
  refine va_putF (D := D) (ci := 1) (v := .ref q4) (ty := .array .int) (C := tp_RM) (T := tp_TM) (N := 7) hx hb hTB tp_inM tp_tyM tp_tyM_ok tp_nmM hown hK hP hD hS 0 rfl rfl 4 (by decide) (hTB _ tp_mM_f4) (fun _ z => z) rfl hin rfl (by decide +kernel) rfl rfl (Nat.le_of_ble_eq_true rfl) dM_init_35 (fun H locs hP hD hS => ?_)
  have hP : va_P D tp_CL [(h, .inr (1, [.int 0, .ref q1, .ref q2, .ref q3, .ref q4, .null, .int 0])), (q1, .inl (cI, 12, .inl (fun _ => 0))), (q2, .inl (cZ, 12, .inl (fun _ => 0))), (q3, .inl (cZ, 400, .inl (fun _ => 0))), (q4, .inl (cI, 400, .inl (fun _ => 0)))] H := hP
  have hD : va_D (va_A [(h, .inr (1, [.int 0, .null, .null, .null, .null, .null, .int 0]))] s.heap.size) [(h, .inr (1, [.int 0, .ref q1, .ref q2, .ref q3, .ref q4, .null, .int 0])), (q1, .inl (cI, 12, .inl (fun _ => 0))), (q2, .inl (cZ, 12, .inl (fun _ => 0))), (q3, .inl (cZ, 400, .inl (fun _ => 0))), (q4, .inl (cI, 400, .inl (fun _ => 0)))] := hD
  refine lv_aload_n hx hb dM_init_38 rfl (lv_at hl 0 rfl) ?_
  refine lv_sipush (v := 1600) hx hb dM_init_39 (by decide) ?_
  refine tp_nwI (N' := 1600) hx hb (hTB _ tp_kA_I) hK hP hD hS hA (by decide) (by decide) (by decide) (Nat.le_of_ble_eq_true rfl) (Nat.le_of_ble_eq_true rfl) dM_init_42 (fun q5 H hP hD hS => ?_)
  have hP : va_P D tp_CL [(h, .inr (1, [.int 0, .ref q1, .ref q2, .ref q3, .ref q4, .null, .int 0])), (q1, .inl (cI, 12, .inl (fun _ => 0))), (q2, .inl (cZ, 12, .inl (fun _ => 0))), (q3, .inl (cZ, 400, .inl (fun _ => 0))), (q4, .inl (cI, 400, .inl (fun _ => 0))), (q5, .inl (cI, 1600, .inl (fun _ => 0)))] H := hP
  have hD : va_D (va_A [(h, .inr (1, [.int 0, .null, .null, .null, .null, .null, .int 0]))] s.heap.size) [(h, .inr (1, [.int 0, .ref q1, .ref q2, .ref q3, .ref q4, .null, .int 0])), (q1, .inl (cI, 12, .inl (fun _ => 0))), (q2, .inl (cZ, 12, .inl (fun _ => 0))), (q3, .inl (cZ, 400, .inl (fun _ => 0))), (q4, .inl (cI, 400, .inl (fun _ => 0))), (q5, .inl (cI, 1600, .inl (fun _ => 0)))] := hD
  refine va_putF (D := D) (ci := 1) (v := .ref q5) (ty := .array .int) (C := tp_RM) (T := tp_TM) (N := 7) hx hb hTB tp_inM tp_tyM tp_tyM_ok tp_nmM hown hK hP hD hS 0 rfl rfl 5 (by decide) (hTB _ tp_mM_f5) (fun _ z => z) rfl hin rfl (by decide +kernel) rfl rfl (Nat.le_of_ble_eq_true rfl) dM_init_44 (fun H locs hP hD hS => ?_)
  have hP : va_P D tp_CL [(h, .inr (1, [.int 0, .ref q1, .ref q2, .ref q3, .ref q4, .ref q5, .int 0])), (q1, .inl (cI, 12, .inl (fun _ => 0))), (q2, .inl (cZ, 12, .inl (fun _ => 0))), (q3, .inl (cZ, 400, .inl (fun _ => 0))), (q4, .inl (cI, 400, .inl (fun _ => 0))), (q5, .inl (cI, 1600, .inl (fun _ => 0)))] H := hP
  have hD : va_D (va_A [(h, .inr (1, [.int 0, .null, .null, .null, .null, .null, .int 0]))] s.heap.size) [(h, .inr (1, [.int 0, .ref q1, .ref q2, .ref q3, .ref q4, .ref q5, .int 0])), (q1, .inl (cI, 12, .inl (fun _ => 0))), (q2, .inl (cZ, 12, .inl (fun _ => 0))), (q3, .inl (cZ, 400, .inl (fun _ => 0))), (q4, .inl (cI, 400, .inl (fun _ => 0))), (q5, .inl (cI, 1600, .inl (fun _ => 0)))] := hD
  obtain ⟨a, ea⟩ : ∃ a : Nat → Nat, q1 = a 1 ∧ q2 = a 2 ∧ q3 = a 3 ∧ q4 = a 4 ∧ q5 = a 5 := ⟨fun k => match k with | 1 => q1 | 2 => q2 | 3 => q3 | 4 => q4 | 5 => q5 | _ => 0, rfl, rfl, rfl, rfl, rfl⟩
  obtain ⟨rfl, rfl, rfl, rfl, rfl⟩ := ea
  have hP : va_P D tp_CL (tp_wM h a cI cZ (fun _ _ => 0)) H := hP
  have hD : va_D (va_A [(h, .inr (1, [.int 0, .null, .null, .null, .null, .null, .int 0]))] s.heap.size) (tp_wM h a cI cZ (fun _ _ => 0)) := hD
  exact W.vret hx hb hrt (fun t ht _ => ⟨⟨(a, fun _ _ => 0), rfl, ⟨fun _ _ => rfl, fun _ _ => ⟨rfl, rfl⟩, fun _ _ => rfl, rfl⟩, (show va_P D tp_CL _ t.heap ∧ _ from ⟨by rw [ht]; exact hP, hD⟩)⟩, hS.F ht⟩) hS.2.2 dM_init_47 hlocks
