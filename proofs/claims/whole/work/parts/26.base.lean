def tp_noF : Addr → Prop := fun _ => False
def tp_TB : List Cond := lw_tbl.filter goodWord
theorem tp_TB_good {w : Cond} (h : w ∈ tp_TB) : (w.onTables && w.keeps) = true ∨ ∃ ty, w = .arrayClass ty := good_of_word (List.mem_filter.mp h).2
def tp_inTB (ws : List Cond) : Bool := ws.all (fun w => decide (w ∈ lw_tbl) && goodWord w)
theorem tp_TB_of {ws : List Cond} (h : tp_inTB ws = true) : ∀ w ∈ ws, w ∈ tp_TB := fun w hw => by
  have h1 := List.all_eq_true.mp h w hw
  simp only [Bool.and_eq_true, decide_eq_true_eq] at h1
  exact List.mem_filter.mpr h1
theorem tp_TB_1 {w : Cond} (h : tp_inTB [w] = true) : w ∈ tp_TB := tp_TB_of h w List.mem_cons_self
abbrev tp_wsT (y : MethodName) (b : ByteArray) (n : Nat) (r : Option FieldType) : List Cond := .code y b n r :: tp_TB
theorem tp_goodV {own C : String} {idx n : Nat} {y : MethodName} {b : ByteArray} {r : Option FieldType} (h : tp_inTB [.methodLink own idx y, .instanceMethod y, .selects C y y, .initialized C, .code y b n r] = true) : GoodIn tp_TB (wsV own idx C y (tp_wsT y b n r)) := by
  have k := tp_TB_of h
  intro w hw
  have hm : w ∈ tp_TB := by
    rcases List.mem_append.mp (show w ∈ ([.methodLink own idx y, .instanceMethod y, .selects C y y, .initialized C] : List Cond) ++ (Cond.code y b n r :: tp_TB) from hw) with h1 | h1
    · exact k w (List.mem_append_left [Cond.code y b n r] h1)
    · rcases List.mem_cons.mp h1 with h2 | h2
      · exact k w (by rw [h2]; exact List.mem_append_right ([.methodLink own idx y, .instanceMethod y, .selects C y y, .initialized C] : List Cond) List.mem_cons_self)
      · exact h2
  exact ⟨hm, tp_TB_good hm⟩
theorem tp_dre {A : Nat → Prop} {w w' : va_W} (h : va_D A w) (e : w'.map Prod.fst = w.map Prod.fst) : va_D A w' := by
  have at' : ∀ (k : Nat) (q : Nat × va_E), w'[k]? = some q → ∃ q0 : Nat × va_E, w[k]? = some q0 ∧ q0.1 = q.1 := by
    intro k q hq
    have h1 : (w'.map Prod.fst)[k]? = some q.1 := by rw [List.getElem?_map, hq]; rfl
    rw [e, List.getElem?_map] at h1
    cases hw : w[k]? with
    | none => rw [hw] at h1; cases h1
    | some q0 => rw [hw] at h1; exact ⟨q0, rfl, Option.some.inj h1⟩
  refine ⟨fun i j p q hi hj hpq => ?_, fun k q hk => ?_⟩
  · obtain ⟨p0, a1, a2⟩ := at' i p hi
    obtain ⟨q0, b1, b2⟩ := at' j q hj
    exact h.1 i j p0 q0 a1 b1 (by rw [a2, b2]; exact hpq)
  · obtain ⟨q0, a1, a2⟩ := at' k q hk
    rw [← a2]; exact h.2 k q0 a1
def tp_TC : u_T := fun k => match k with
  | 0 => ("TwinPool", "placesOf", "[I", true)
  | 1 => ("TwinPool", "copiesOn", "[I", true)
  | 2 => ("TwinPool", "leaving", "[Z", true)
  | 3 => ("TwinPool", "exists", "[Z", true)
  | 4 => ("TwinPool", "lesser", "[I", true)
  | 5 => ("TwinPool", "greater", "[I", true)
  | 6 => ("TwinPool", "words", "[I", true)
  | _ => ("TwinPool", "movesForRoom", "I", false)
def tp_TM : u_T := fun k => match k with
  | 0 => ("TwinPoolModel", "thrown", "I", false)
  | 1 => ("TwinPoolModel", "places", "[I", true)
  | 2 => ("TwinPoolModel", "leaving", "[Z", true)
  | 3 => ("TwinPoolModel", "there", "[Z", true)
  | 4 => ("TwinPoolModel", "copies", "[I", true)
  | 5 => ("TwinPoolModel", "words", "[I", true)
  | _ => ("TwinPoolModel", "moves", "I", false)
def tp_tyC : Nat → FieldType := fun k => match k with
  | 2 => .array .boolean
  | 3 => .array .boolean
  | 7 => .int
  | _ => .array .int
def tp_tyM : Nat → FieldType := fun k => match k with
  | 0 => .int
  | 2 => .array .boolean
  | 3 => .array .boolean
  | 6 => .int
  | _ => .array .int
theorem tp_nmC : ∀ a, a < 8 → ∀ b, b < 8 → a ≠ b → (tp_TC a).2.1 ≠ (tp_TC b).2.1 := by decide +kernel
theorem tp_nmM : ∀ a, a < 7 → ∀ b, b < 7 → a ≠ b → (tp_TM a).2.1 ≠ (tp_TM b).2.1 := by decide +kernel
theorem tp_tyC_ok : ∀ k, k < 8 → parseFieldDescriptor (tp_TC k).2.2.1 = some (tp_tyC k) := by decide +kernel
theorem tp_tyM_ok : ∀ k, k < 7 → parseFieldDescriptor (tp_TM k).2.2.1 = some (tp_tyM k) := by decide +kernel
theorem tp_inC : ∀ w ∈ u_ws tp_RC tp_TC 8, w ∈ tp_TB := tp_TB_of (by decide +kernel)
theorem tp_inM : ∀ w ∈ u_ws tp_RM tp_TM 7, w ∈ tp_TB := tp_TB_of (by decide +kernel)
abbrev tp_CL : List vw_C := [(tp_RC, tp_TC, 8), (tp_RM, tp_TM, 7)]
abbrev tp_wC (h : Nat) (a : Nat → Nat) (cI cZ : ClassId) (σ : tp_St) : va_W := [(h, .inr (0, [.ref (a 0), .ref (a 1), .ref (a 2), .ref (a 3), .ref (a 4), .ref (a 5), .ref (a 6), .int (σ 7 0)])), (a 0, .inl (cI, 12, .inl (σ 0))), (a 1, .inl (cI, 12, .inl (σ 1))), (a 2, .inl (cZ, 12, .inl (σ 2))), (a 3, .inl (cZ, 400, .inl (σ 3))), (a 4, .inl (cI, 400, .inl (σ 4))), (a 5, .inl (cI, 400, .inl (σ 5))), (a 6, .inl (cI, 1600, .inl (σ 6)))]
abbrev tp_wM (h : Nat) (a : Nat → Nat) (cI cZ : ClassId) (σ : tp_St) : va_W := [(h, .inr (1, [.int (σ 0 0), .ref (a 1), .ref (a 2), .ref (a 3), .ref (a 4), .ref (a 5), .int (σ 6 0)])), (a 1, .inl (cI, 12, .inl (σ 1))), (a 2, .inl (cZ, 12, .inl (σ 2))), (a 3, .inl (cZ, 400, .inl (σ 3))), (a 4, .inl (cI, 400, .inl (σ 4))), (a 5, .inl (cI, 1600, .inl (σ 5)))]
def tp_PcW (D : va_G) (tys : List (ClassId × FieldType)) (w : va_W) (sz : Nat) (av : List Value) : Array Value → State → Prop := va_Pc av (fun U => U.heap.size = sz ∧ va_P D tp_CL w U.heap ∧ va_K D tp_CL tys U ∧ va_D (fun _ => True) w)
def tp_qI (r : Int32) : Array Value → State → Outcome → State → Prop := fun _ st oc t => oc = .returned (some (.int r)) ∧ t.heap = st.heap
def tp_qW (v : Option Value) (D : va_G) (w : va_W) (A : Nat → Prop) : Array Value → State → Outcome → State → Prop := fun _ st oc t => oc = .returned v ∧ va_P D tp_CL w t.heap ∧ va_F A st t
theorem tp_blindW {D : va_G} {tys : List (ClassId × FieldType)} {w : va_W} {sz : Nat} {av : List Value} : FrameBlind (tp_PcW D tys w sz av) := fun a U g mk q => by
  obtain ⟨q0, q1, qP, qK, qD⟩ := q
  exact ⟨q0, q1, qP, va_K.moved (u := U) (U := U.calling g mk a) (Vm.Alike.refl U.vm) qK, qD⟩
def tp_exN : List String := ["java/lang/RuntimeException", "java/lang/Exception"]
theorem tp_exN_ok : ∀ n ∈ tp_exN, Bundle.fit n = true := by decide +kernel
def tp_xN (k : Nat) : String := if k = 1 then "java/lang/IndexOutOfBoundsException" else if k = 2 then "java/lang/IllegalStateException" else if k = 3 then "java/lang/IllegalArgumentException" else "java/lang/UnsupportedOperationException"
def tp_NGl : List Cond := [.declares (Bundle.init0 "java/lang/RuntimeException"), .declares (Bundle.init0 "java/lang/Exception"), .declares (Bundle.init0 Bundle.tN), .castable (tp_xN 1) (tp_xN 1), .castable (tp_xN 2) (tp_xN 2), .castable (tp_xN 3) (tp_xN 3), .castable (tp_xN 4) (tp_xN 4)]
theorem tp_ng_ok : tp_NGl.all (fun w => w.faceAtom && w.onTables) = true := by decide +kernel
theorem tp_ng_moved {u U : State} (hvm : u.vm.Alike U.vm) {a a' : Array Value} (h : ∀ w ∈ tp_NGl, w.before a u = true) : ∀ w ∈ tp_NGl, w.before a' U = true := by
  intro w hw
  have h1 := List.all_eq_true.mp tp_ng_ok w hw
  simp only [Bool.and_eq_true] at h1
  exact va_tabs h1.2 (u := u.setVm U.vm) rfl (Cond.faceAtom_setVm hvm w h1.1 (h w hw))
def tp_xNc (U : State) : Prop := va_Nc (tp_xN 2) (tp_xN 1) U ∧ va_Nc (tp_xN 3) (tp_xN 1) U ∧ va_Nc (tp_xN 3) (tp_xN 2) U ∧ va_Nc (tp_xN 4) (tp_xN 1) U ∧ va_Nc (tp_xN 4) (tp_xN 2) U
theorem tp_xNcm {u U : State} (hvm : u.vm.Alike U.vm) (h : tp_xNc u) : tp_xNc U := ⟨h.1.moved hvm, h.2.1.moved hvm, h.2.2.1.moved hvm, h.2.2.2.1.moved hvm, h.2.2.2.2.moved hvm⟩
def tp_xZ (A : Nat → Prop) (U : State) : Prop := vx_Zq Bundle.tN "UNASSIGNED_STACK" Bundle.steD A U U.heap ∧ vx_Zq Bundle.tN "SUPPRESSED_SENTINEL" Bundle.listD A U U.heap ∧ (∀ w ∈ tp_NGl, w.before #[] U = true) ∧ tp_xNc U
theorem tp_xZm {A : Nat → Prop} {u U : State} (hvm : u.vm.Alike U.vm) (hh : U.heap = u.heap) (h : tp_xZ A u) : tp_xZ A U := ⟨by rw [hh]; exact vx_Zq.moved hvm h.1, by rw [hh]; exact vx_Zq.moved hvm h.2.1, tp_ng_moved hvm h.2.2.1, tp_xNcm hvm h.2.2.2⟩
theorem tp_xZc {A B : Nat → Prop} {u U : State} {H : Heap} {locs : List Loc} (hvm : u.vm.Alike U.vm) (hS : va_S A u.heap H locs) (hh : U.heap = H) (hAB : ∀ q, B q → A q) (h : tp_xZ A u) : tp_xZ B U :=
  ⟨by rw [hh]; exact (vx_Zq.moved hvm (h.1.kept hS.2.1)).narrow hAB, by rw [hh]; exact (vx_Zq.moved hvm (h.2.1.kept hS.2.1)).narrow hAB, tp_ng_moved hvm h.2.2.1, tp_xNcm hvm h.2.2.2⟩
def tp_PcX (D : va_G) (tys : List (ClassId × FieldType)) (w : va_W) (sz : Nat) (av : List Value) : Array Value → State → Prop := va_Pc av (fun U => U.heap.size = sz ∧ va_P D tp_CL w U.heap ∧ va_K D tp_CL tys U ∧ va_D (fun _ => True) w ∧ tp_xZ (va_A w sz) U)
theorem tp_blindX {D : va_G} {tys : List (ClassId × FieldType)} {w : va_W} {sz : Nat} {av : List Value} : FrameBlind (tp_PcX D tys w sz av) := fun a U g mk q => by
  obtain ⟨q0, q1, qP, qK, qD, qX⟩ := q
  exact ⟨q0, q1, qP, va_K.moved (u := U) (U := U.calling g mk a) (Vm.Alike.refl U.vm) qK, qD, tp_xZm (u := U) (U := U.calling g mk a) (Vm.Alike.refl U.vm) rfl qX⟩
def tp_qTC (D : va_G) (h : Nat) (a : Nat → Nat) (cI cZ : ClassId) (r : Nat × Int32 × tp_St) (A : Nat → Prop) : Array Value → State → Outcome → State → Prop := va_Qi (fun v (u : tp_St) => r = (0, v, u)) (fun u t => va_P D tp_CL (tp_wC h a cI cZ u) t.heap) A
def tp_qNC (D : va_G) (h : Nat) (a : Nat → Nat) (cI cZ : ClassId) (r : Nat × Int32 × tp_St) (A : Nat → Prop) : Array Value → State → Outcome → State → Prop := va_Qv (fun (u : tp_St) => r = (0, 0, u)) (fun u t => va_P D tp_CL (tp_wC h a cI cZ u) t.heap) A
def tp_qXC (ks : List Nat) (D : va_G) (h : Nat) (a : Nat → Nat) (cI cZ : ClassId) (r : Nat × Int32 × tp_St) (A : Nat → Prop) : String → State → State → Prop := vx_X (fun (u : Nat × tp_St) => u.1 ∈ ks ∧ r = (u.1, 0, u.2)) (fun E u t => E = tp_xN u.1 ∧ va_P D tp_CL (tp_wC h a cI cZ u.2) t.heap) A
def tp_xOK (own : String) (ik ic : Nat) (E : String) : Prop :=
  tp_inTB (.classLink own ik E :: .initialized E :: (vx_at0 own ic E tp_exN).filter goodWord) = true ∧
  ((vx_at0 own ic E tp_exN).filter (fun w => !goodWord w)).all (fun w => decide (w ∈ tp_NGl)) = true ∧
  (Cond.classLink own ik E :: Cond.initialized E :: vx_at0 own ic E tp_exN).all vx_ot = true ∧ Bundle.fit E = true
theorem tp_tsw3 {x : Int32} (h0 : ¬ x = 0) (h1 : ¬ x = 1) (h2 : ¬ x = 2) (h3 : ¬ x = 3) : x.toInt < 0 ∨ 3 < x.toInt := by
  have a0 := lv_neT (a := 0) h0 (by decide); have a1 := lv_neT (a := 1) h1 (by decide); have a2 := lv_neT (a := 2) h2 (by decide); have a3 := lv_neT (a := 3) h3 (by decide)
  omega
theorem tp_tsw6 {x : Int32} (h0 : ¬ x = 0) (h1 : ¬ x = 1) (h2 : ¬ x = 2) (h3 : ¬ x = 3) (h4 : ¬ x = 4) (h5 : ¬ x = 5) (h6 : ¬ x = 6) : x.toInt < 0 ∨ 6 < x.toInt := by
  have a0 := lv_neT (a := 0) h0 (by decide); have a1 := lv_neT (a := 1) h1 (by decide); have a2 := lv_neT (a := 2) h2 (by decide); have a3 := lv_neT (a := 3) h3 (by decide)
  have a4 := lv_neT (a := 4) h4 (by decide); have a5 := lv_neT (a := 5) h5 (by decide); have a6 := lv_neT (a := 6) h6 (by decide)
  omega
theorem tp_ii1 (x : Int32) : x + Int32.ofInt 1 = x + 1 := by rw [show Int32.ofInt 1 = (1 : Int32) from by decide]
section
variable {p : Program} {l : Launch} {e : Env} {R : Room} {s : State} {m : MethodId} {args : Array Value} {below : List Frame} {meth : Method} {c : Code} {H : Heap} {locs : List Loc} {cells slots : Nat} {Q : State → Prop}
variable {cc : ByteArray} {nL pc index n maxL : Nat} {ls : Array Slot} {rest st0 xs : List Value} {D : va_G} {tys : List (ClassId × FieldType)} {w w' : va_W} {A0 : Nat → Prop} {H0 : Heap}
variable {own C : String} {T : u_T} {N ci h : Nat} {fs : List Value} {y : MethodName} {bytes : ByteArray} {ret : Option FieldType} {ws : List Cond} {tp_rm : Room}
theorem tp_kP {r : Int32} (S : CallFix p m c cc nL s args tp_TB own) (hK : va_K D tp_CL tys s) (hP : va_P D tp_CL w H) (hD : va_D A0 w) (he : w[0]? = some (h, .inr (ci, fs))) (hc : tp_CL[ci]? = some (C, T, N))
    (hM : Met l y ws tp_rm (tp_PcW D tys w H.size (.ref h :: xs)) (tp_qI r) 0 0 tp_noF) (tp_cw : CallW R s args own C index y bytes maxL ret ws tp_rm 0 0 n) (hn : xs.length = n) (hsz : ls.size = nL) (hst : st0 = xs.reverse ++ .ref h :: rest)
    (hW : (rest.map fun v => v.category).sum ≤ 8) (hdg : decode cc pc = .ok (.invokevirtual index, 3)) (hf : cells ≤ R.cells ∧ slots ≤ R.slots)
    (kk : W p l e R s m args below meth c H locs cells slots Q (F0 m (pc + 3) ls (.int r :: rest))) : W p l e R s m args below meth c H locs cells slots Q (F0 m pc ls st0) := by
  have hrun := va_runV (e := e) (below := below) (meth := meth) (H := H) (locs := locs) (cells := cells) (slots := slots) (g := F0 m pc ls st0) (rest := rest) S hM tp_cw
    ⟨tp_blindW, va_recv hK hP hc he, fun U hU hW9 => ⟨rfl, by rw [hU], by rw [hU]; exact hP, va_K.moved hW9.alike hK, hD.weaken (fun _ _ _ _ => trivial)⟩⟩ rfl hn hsz hst (lv_room hW) hdg hf
  intro T9 hT X
  obtain ⟨v, st₀, t, T', L, h0, X', hL, e1, e2, ⟨hv, hh⟩, st⟩ := hrun T9 hT X
  cases hv
  have hLn : L = [] := by
    cases L with
    | nil => rfl
    | cons z _ => exact absurd (hL z List.mem_cons_self) (fun z => z)
  subst hLn
  rw [List.append_nil] at X'
  obtain ⟨t2, a1, b1⟩ := kk T' (by rw [e1, hh, h0]) X'
  exact ⟨t2, st t2 a1, b1⟩
theorem tp_kV {v : Option Value} (S : CallFix p m c cc nL s args tp_TB own) (hK : va_K D tp_CL tys s) (hP : va_P D tp_CL w H) (hD : va_D A0 w) (hS : va_S A0 H0 H locs) (hA : ∀ q : Nat, H0.size ≤ q → A0 q) (he : w[0]? = some (h, .inr (ci, fs))) (hc : tp_CL[ci]? = some (C, T, N))
    (hM : Met l y ws tp_rm (tp_PcW D tys w H.size (.ref h :: xs)) (tp_qW v D w' (va_A w H.size)) 0 0 (va_A w H.size)) (tp_cw : CallW R s args own C index y bytes maxL ret ws tp_rm 0 0 n) (hn : xs.length = n) (hsz : ls.size = nL) (hst : st0 = xs.reverse ++ .ref h :: rest)
    (hW : (rest.map fun v => v.category).sum ≤ 8) (hdg : decode cc pc = .ok (.invokevirtual index, 3)) (hf : cells ≤ R.cells ∧ slots ≤ R.slots)
    (kk : ∀ (H1 : Heap) (locs1 : List Loc), va_P D tp_CL w' H1 → va_S A0 H0 H1 locs1 → W p l e R s m args below meth c H1 locs1 cells slots Q (F0 m (pc + 3) ls (v.toList ++ rest))) : W p l e R s m args below meth c H locs cells slots Q (F0 m pc ls st0) := by
  have hrun := va_runV (e := e) (below := below) (meth := meth) (H := H) (locs := locs) (cells := cells) (slots := slots) (g := F0 m pc ls st0) (rest := rest) S hM tp_cw
    ⟨tp_blindW, va_recv hK hP hc he, fun U hU hW9 => ⟨rfl, by rw [hU], by rw [hU]; exact hP, va_K.moved hW9.alike hK, hD.weaken (fun _ _ _ _ => trivial)⟩⟩ rfl hn hsz hst (lv_room hW) hdg hf
  have hF : ∀ q, va_A w H.size q → A0 q := by
    intro q z
    rcases z with ⟨k, e9, z⟩ | z
    · exact hD.2 k (q, e9) z
    · exact hA q (Nat.le_trans hS.1 z)
  intro T9 hT X
  obtain ⟨v9, st₀, t, T', L, h0, X', hL, e1, e2, ⟨hv, hp, hz, hk⟩, st⟩ := hrun T9 hT X
  cases hv
  rw [h0] at hz hk
  obtain ⟨t2, a1, b1⟩ := kk T'.heap (locs ++ L) (by rw [e1]; exact hp)
    ⟨Nat.le_trans hS.1 (by rw [e1]; exact hz), fun q h1 h2 => by rw [e1, hk q (Nat.lt_of_lt_of_le h1 hS.1) (fun z => h2 (hF q z))]; exact hS.2.1 q h1 h2, fun q hq => by
      rcases List.mem_append.mp hq with h | h
      · exact hS.2.2 q h
      · exact hF _ (hL q h)⟩ T' rfl X'
  exact ⟨t2, st t2 a1, b1⟩
theorem tp_gtC {a : Nat → Nat} {cI cZ : ClassId} {σ : tp_St} {v : Value} (S : CallFix p m c cc nL s args tp_TB tp_RC) (hK : va_K D tp_CL tys s) (hP : va_P D tp_CL (tp_wC h a cI cZ σ) H) (k : Nat) (hk : k < 8) (hl : Cond.fieldLink tp_RC index (tp_TC k).1 (tp_TC k).2.1 (tp_TC k).2.2.1 ∈ tp_TB) (hv : ([.ref (a 0), .ref (a 1), .ref (a 2), .ref (a 3), .ref (a 4), .ref (a 5), .ref (a 6), .int (σ 7 0)] : List Value)[k]? = some v) (hdg : decode cc pc = .ok (.getfield index, 3))
    (kk : W p l e R s m args below meth c H locs cells slots Q (F0 m (pc + 3) ls (v :: rest))) : W p l e R s m args below meth c H locs cells slots Q (F0 m pc ls (.ref h :: rest)) :=
  va_get (D := D) (ci := 0) (C := tp_RC) (T := tp_TC) (N := 8) S.1 S.2.1 S.2.2.2.2 tp_inC S.2.2.2.1 hK hP 0 rfl rfl k hk (S.2.2.2.2 _ hl) (fun _ z => z) hv hdg kk
theorem tp_gtM {a : Nat → Nat} {cI cZ : ClassId} {σ : tp_St} {v : Value} (S : CallFix p m c cc nL s args tp_TB tp_RM) (hK : va_K D tp_CL tys s) (hP : va_P D tp_CL (tp_wM h a cI cZ σ) H) (k : Nat) (hk : k < 7) (hl : Cond.fieldLink tp_RM index (tp_TM k).1 (tp_TM k).2.1 (tp_TM k).2.2.1 ∈ tp_TB) (hv : ([.int (σ 0 0), .ref (a 1), .ref (a 2), .ref (a 3), .ref (a 4), .ref (a 5), .int (σ 6 0)] : List Value)[k]? = some v) (hdg : decode cc pc = .ok (.getfield index, 3))
    (kk : W p l e R s m args below meth c H locs cells slots Q (F0 m (pc + 3) ls (v :: rest))) : W p l e R s m args below meth c H locs cells slots Q (F0 m pc ls (.ref h :: rest)) :=
  va_get (D := D) (ci := 1) (C := tp_RM) (T := tp_TM) (N := 7) S.1 S.2.1 S.2.2.2.2 tp_inM S.2.2.2.1 hK hP 0 rfl rfl k hk (S.2.2.2.2 _ hl) (fun _ z => z) hv hdg kk
theorem tp_ptC7 {a : Nat → Nat} {cI cZ : ClassId} {σ : tp_St} {x : Int32} (S : CallFix p m c cc nL s args tp_TB tp_RC) (hK : va_K D tp_CL tys s) (hP : va_P D tp_CL (tp_wC h a cI cZ σ) H) (hD : va_D A0 (tp_wC h a cI cZ σ)) (hS : va_S A0 H0 H locs) (hl : Cond.fieldLink tp_RC index (tp_TC 7).1 (tp_TC 7).2.1 (tp_TC 7).2.2.1 ∈ tp_TB) (hdg : decode cc pc = .ok (.putfield index, 3))
    (kk : ∀ (H1 : Heap) (locs1 : List Loc), va_P D tp_CL (tp_wC h a cI cZ (tp_up σ 7 0 x)) H1 → va_D A0 (tp_wC h a cI cZ (tp_up σ 7 0 x)) → va_S A0 H0 H1 locs1 → W p l e R s m args below meth c H1 locs1 cells slots Q (F0 m (pc + 3) ls rest)) : W p l e R s m args below meth c H locs cells slots Q (F0 m pc ls (.int x :: .ref h :: rest)) :=
  va_put (D := D) (ci := 0) (v := .int x) (ty := .int) (C := tp_RC) (T := tp_TC) (N := 8) S.1 S.2.1 S.2.2.2.2 tp_inC tp_tyC tp_tyC_ok tp_nmC S.2.2.2.1 hK hP hD hS 0 rfl rfl 7 (by decide) (S.2.2.2.2 _ hl) (fun _ z => z) rfl (by decide +kernel) rfl rfl (Nat.le_of_ble_eq_true rfl) hdg (fun H1 l1 hp hd hs => kk H1 l1 hp hd hs)
theorem tp_ptM0 {a : Nat → Nat} {cI cZ : ClassId} {σ : tp_St} {x : Int32} (S : CallFix p m c cc nL s args tp_TB tp_RM) (hK : va_K D tp_CL tys s) (hP : va_P D tp_CL (tp_wM h a cI cZ σ) H) (hD : va_D A0 (tp_wM h a cI cZ σ)) (hS : va_S A0 H0 H locs) (hl : Cond.fieldLink tp_RM index (tp_TM 0).1 (tp_TM 0).2.1 (tp_TM 0).2.2.1 ∈ tp_TB) (hdg : decode cc pc = .ok (.putfield index, 3))
    (kk : ∀ (H1 : Heap) (locs1 : List Loc), va_P D tp_CL (tp_wM h a cI cZ (tp_up σ 0 0 x)) H1 → va_D A0 (tp_wM h a cI cZ (tp_up σ 0 0 x)) → va_S A0 H0 H1 locs1 → W p l e R s m args below meth c H1 locs1 cells slots Q (F0 m (pc + 3) ls rest)) : W p l e R s m args below meth c H locs cells slots Q (F0 m pc ls (.int x :: .ref h :: rest)) :=
  va_put (D := D) (ci := 1) (v := .int x) (ty := .int) (C := tp_RM) (T := tp_TM) (N := 7) S.1 S.2.1 S.2.2.2.2 tp_inM tp_tyM tp_tyM_ok tp_nmM S.2.2.2.1 hK hP hD hS 0 rfl rfl 0 (by decide) (S.2.2.2.2 _ hl) (fun _ z => z) rfl (by decide +kernel) rfl rfl (Nat.le_of_ble_eq_true rfl) hdg (fun H1 l1 hp hd hs => kk H1 l1 hp hd hs)
theorem tp_ptM6 {a : Nat → Nat} {cI cZ : ClassId} {σ : tp_St} {x : Int32} (S : CallFix p m c cc nL s args tp_TB tp_RM) (hK : va_K D tp_CL tys s) (hP : va_P D tp_CL (tp_wM h a cI cZ σ) H) (hD : va_D A0 (tp_wM h a cI cZ σ)) (hS : va_S A0 H0 H locs) (hl : Cond.fieldLink tp_RM index (tp_TM 6).1 (tp_TM 6).2.1 (tp_TM 6).2.2.1 ∈ tp_TB) (hdg : decode cc pc = .ok (.putfield index, 3))
    (kk : ∀ (H1 : Heap) (locs1 : List Loc), va_P D tp_CL (tp_wM h a cI cZ (tp_up σ 6 0 x)) H1 → va_D A0 (tp_wM h a cI cZ (tp_up σ 6 0 x)) → va_S A0 H0 H1 locs1 → W p l e R s m args below meth c H1 locs1 cells slots Q (F0 m (pc + 3) ls rest)) : W p l e R s m args below meth c H locs cells slots Q (F0 m pc ls (.int x :: .ref h :: rest)) :=
  va_put (D := D) (ci := 1) (v := .int x) (ty := .int) (C := tp_RM) (T := tp_TM) (N := 7) S.1 S.2.1 S.2.2.2.2 tp_inM tp_tyM tp_tyM_ok tp_nmM S.2.2.2.1 hK hP hD hS 0 rfl rfl 6 (by decide) (S.2.2.2.2 _ hl) (fun _ z => z) rfl (by decide +kernel) rfl rfl (Nat.le_of_ble_eq_true rfl) hdg (fun H1 l1 hp hd hs => kk H1 l1 hp hd hs)
theorem tp_thrC {a : Nat → Nat} {cI cZ : ClassId} {σ : tp_St} {ks : List Nat} {k ik ic : Nat} {A : Nat → Prop} {Qc : Array Value → State → Outcome → State → Prop} (hx : p.tables.exec = Jvm.exec) (hb : c.code = cc) (hl0 : l.stackTraces = false) (hown : s.vm.findClass tp_RC = some m.cls) (hk : k ∈ ks) (xk : tp_xOK tp_RC ik ic (tp_xN k)) (hTB : ∀ w ∈ tp_TB, w.before args s = true) (hX : tp_xZ A s) (hS : va_S A s.heap H locs) (hP : va_P D tp_CL (tp_wC h a cI cZ σ) H) (hsize : ls.size = c.maxLocals)
    (d0 : decode cc pc = .ok (.new ik, 3)) (d3 : decode cc (pc + 3) = .ok (.dup, 1)) (d4 : decode cc (pc + 4) = .ok (.invokespecial ic, 3)) (d7 : decode cc (pc + 7) = .ok (.athrow, 1)) (hnoh : ∀ (x : ExceptionTableEntry), x ∈ c.exceptionTable.toList → False)
    (r1 : 6 ≤ R.frames) (r2 : 81 ≤ R.locals) (r3 : 1 ≤ R.cells) (r4 : 6 ≤ R.slots) (hlocks : meth.locks = false) :
    W p l e R s m args below meth c H locs 0 0 (vx_MQ below Qc (tp_qXC ks D h a cI cZ (k, 0, σ) A) args s 1 6 A) (F0 m pc ls []) := by
  obtain ⟨x1, x2, x3, x4⟩ := xk
  have w1 := tp_TB_of x1
  have hat : ∀ w ∈ vx_at0 tp_RC ic (tp_xN k) tp_exN, w.before args s = true := vx_hat (B := tp_NGl) (fun w hw => hTB w (w1 w (List.mem_cons_of_mem _ (List.mem_cons_of_mem _ hw))))
    (fun w hw => of_decide_eq_true (List.all_eq_true.mp x2 w hw)) (tp_ng_moved (Vm.Alike.refl s.vm) hX.2.2.1)
  exact vx_throw0 (names := tp_exN) (A := A) hx hb hl0 hown x4 tp_exN_ok (hTB _ (w1 _ List.mem_cons_self)) (hTB _ (w1 _ (List.mem_cons_of_mem _ List.mem_cons_self))) hat (fun w hw => List.all_eq_true.mp x3 w hw) hX.1 hX.2.1 hS hsize d0 d3 d4 d7 (fun x z => (hnoh x z).elim)
    (show 2 + 3 < R.frames by omega) (show 0 + (13 * (2 + 1) + 42) ≤ R.locals by omega) (show 0 + 1 ≤ R.cells by omega) (show 0 + 6 ≤ R.slots by omega) hlocks
    (fun t ht hz hq => ⟨(k, σ), ⟨hk, rfl⟩, ⟨rfl, hP.kept (fun j q hj => hq q.1 ((hP j q hj).lt))⟩, ⟨Nat.le_trans hS.1 hz, fun q h1 h2 => (hq q (Nat.lt_of_lt_of_le h1 hS.1)).trans (hS.2.1 q h1 h2)⟩⟩) hS.2.2 (Nat.le_refl _) (Nat.le_refl _)
theorem tp_asC0 {a : Nat → Nat} {cI cZ : ClassId} {σ : tp_St} {i x : Int32} (S : CallFix p m c cc nL s args tp_TB tp_RC) (hK : va_K D tp_CL [(cI, .int), (cZ, .boolean)] s) (hP : va_P D tp_CL (tp_wC h a cI cZ σ) H) (hD : va_D A0 (tp_wC h a cI cZ σ)) (hS : va_S A0 H0 H locs) (hin : vp_in i 12) (hdg : decode cc pc = .ok (.iastore, 1))
    (kk : ∀ (H1 : Heap) (locs1 : List Loc), va_P D tp_CL (tp_wC h a cI cZ (tp_up σ 0 i.toNatClampNeg x)) H1 → va_D A0 (tp_wC h a cI cZ (tp_up σ 0 i.toNatClampNeg x)) → va_S A0 H0 H1 locs1 → W p l e R s m args below meth c H1 locs1 cells slots Q (F0 m (pc + 1) ls rest)) : W p l e R s m args below meth c H locs cells slots Q (F0 m pc ls (.int x :: .int i :: .ref (a 0) :: rest)) :=
  va_iast S.1 S.2.1 hK hP hD hS 1 0 rfl rfl hin hdg (fun H1 l1 hp hd hs => kk H1 l1 hp hd hs)
theorem tp_asC1 {a : Nat → Nat} {cI cZ : ClassId} {σ : tp_St} {i x : Int32} (S : CallFix p m c cc nL s args tp_TB tp_RC) (hK : va_K D tp_CL [(cI, .int), (cZ, .boolean)] s) (hP : va_P D tp_CL (tp_wC h a cI cZ σ) H) (hD : va_D A0 (tp_wC h a cI cZ σ)) (hS : va_S A0 H0 H locs) (hin : vp_in i 12) (hdg : decode cc pc = .ok (.iastore, 1))
    (kk : ∀ (H1 : Heap) (locs1 : List Loc), va_P D tp_CL (tp_wC h a cI cZ (tp_up σ 1 i.toNatClampNeg x)) H1 → va_D A0 (tp_wC h a cI cZ (tp_up σ 1 i.toNatClampNeg x)) → va_S A0 H0 H1 locs1 → W p l e R s m args below meth c H1 locs1 cells slots Q (F0 m (pc + 1) ls rest)) : W p l e R s m args below meth c H locs cells slots Q (F0 m pc ls (.int x :: .int i :: .ref (a 1) :: rest)) :=
  va_iast S.1 S.2.1 hK hP hD hS 2 0 rfl rfl hin hdg (fun H1 l1 hp hd hs => kk H1 l1 hp hd hs)
theorem tp_asC2 {a : Nat → Nat} {cI cZ : ClassId} {σ : tp_St} {i x : Int32} (S : CallFix p m c cc nL s args tp_TB tp_RC) (hK : va_K D tp_CL [(cI, .int), (cZ, .boolean)] s) (hP : va_P D tp_CL (tp_wC h a cI cZ σ) H) (hD : va_D A0 (tp_wC h a cI cZ σ)) (hS : va_S A0 H0 H locs) (hin : vp_in i 12) (hdg : decode cc pc = .ok (.bastore, 1))
    (kk : ∀ (H1 : Heap) (locs1 : List Loc), va_P D tp_CL (tp_wC h a cI cZ (tp_up σ 2 i.toNatClampNeg (vp_nar .boolean x))) H1 → va_D A0 (tp_wC h a cI cZ (tp_up σ 2 i.toNatClampNeg (vp_nar .boolean x))) → va_S A0 H0 H1 locs1 → W p l e R s m args below meth c H1 locs1 cells slots Q (F0 m (pc + 1) ls rest)) : W p l e R s m args below meth c H locs cells slots Q (F0 m pc ls (.int x :: .int i :: .ref (a 2) :: rest)) :=
  va_zast S.1 S.2.1 hK hP hD hS 3 1 rfl rfl hin hdg (fun H1 l1 hp hd hs => kk H1 l1 hp hd hs)
theorem tp_asC3 {a : Nat → Nat} {cI cZ : ClassId} {σ : tp_St} {i x : Int32} (S : CallFix p m c cc nL s args tp_TB tp_RC) (hK : va_K D tp_CL [(cI, .int), (cZ, .boolean)] s) (hP : va_P D tp_CL (tp_wC h a cI cZ σ) H) (hD : va_D A0 (tp_wC h a cI cZ σ)) (hS : va_S A0 H0 H locs) (hin : vp_in i 400) (hdg : decode cc pc = .ok (.bastore, 1))
    (kk : ∀ (H1 : Heap) (locs1 : List Loc), va_P D tp_CL (tp_wC h a cI cZ (tp_up σ 3 i.toNatClampNeg (vp_nar .boolean x))) H1 → va_D A0 (tp_wC h a cI cZ (tp_up σ 3 i.toNatClampNeg (vp_nar .boolean x))) → va_S A0 H0 H1 locs1 → W p l e R s m args below meth c H1 locs1 cells slots Q (F0 m (pc + 1) ls rest)) : W p l e R s m args below meth c H locs cells slots Q (F0 m pc ls (.int x :: .int i :: .ref (a 3) :: rest)) :=
  va_zast S.1 S.2.1 hK hP hD hS 4 1 rfl rfl hin hdg (fun H1 l1 hp hd hs => kk H1 l1 hp hd hs)
theorem tp_asC4 {a : Nat → Nat} {cI cZ : ClassId} {σ : tp_St} {i x : Int32} (S : CallFix p m c cc nL s args tp_TB tp_RC) (hK : va_K D tp_CL [(cI, .int), (cZ, .boolean)] s) (hP : va_P D tp_CL (tp_wC h a cI cZ σ) H) (hD : va_D A0 (tp_wC h a cI cZ σ)) (hS : va_S A0 H0 H locs) (hin : vp_in i 400) (hdg : decode cc pc = .ok (.iastore, 1))
    (kk : ∀ (H1 : Heap) (locs1 : List Loc), va_P D tp_CL (tp_wC h a cI cZ (tp_up σ 4 i.toNatClampNeg x)) H1 → va_D A0 (tp_wC h a cI cZ (tp_up σ 4 i.toNatClampNeg x)) → va_S A0 H0 H1 locs1 → W p l e R s m args below meth c H1 locs1 cells slots Q (F0 m (pc + 1) ls rest)) : W p l e R s m args below meth c H locs cells slots Q (F0 m pc ls (.int x :: .int i :: .ref (a 4) :: rest)) :=
  va_iast S.1 S.2.1 hK hP hD hS 5 0 rfl rfl hin hdg (fun H1 l1 hp hd hs => kk H1 l1 hp hd hs)
theorem tp_asC5 {a : Nat → Nat} {cI cZ : ClassId} {σ : tp_St} {i x : Int32} (S : CallFix p m c cc nL s args tp_TB tp_RC) (hK : va_K D tp_CL [(cI, .int), (cZ, .boolean)] s) (hP : va_P D tp_CL (tp_wC h a cI cZ σ) H) (hD : va_D A0 (tp_wC h a cI cZ σ)) (hS : va_S A0 H0 H locs) (hin : vp_in i 400) (hdg : decode cc pc = .ok (.iastore, 1))
    (kk : ∀ (H1 : Heap) (locs1 : List Loc), va_P D tp_CL (tp_wC h a cI cZ (tp_up σ 5 i.toNatClampNeg x)) H1 → va_D A0 (tp_wC h a cI cZ (tp_up σ 5 i.toNatClampNeg x)) → va_S A0 H0 H1 locs1 → W p l e R s m args below meth c H1 locs1 cells slots Q (F0 m (pc + 1) ls rest)) : W p l e R s m args below meth c H locs cells slots Q (F0 m pc ls (.int x :: .int i :: .ref (a 5) :: rest)) :=
  va_iast S.1 S.2.1 hK hP hD hS 6 0 rfl rfl hin hdg (fun H1 l1 hp hd hs => kk H1 l1 hp hd hs)
theorem tp_asC6 {a : Nat → Nat} {cI cZ : ClassId} {σ : tp_St} {i x : Int32} (S : CallFix p m c cc nL s args tp_TB tp_RC) (hK : va_K D tp_CL [(cI, .int), (cZ, .boolean)] s) (hP : va_P D tp_CL (tp_wC h a cI cZ σ) H) (hD : va_D A0 (tp_wC h a cI cZ σ)) (hS : va_S A0 H0 H locs) (hin : vp_in i 1600) (hdg : decode cc pc = .ok (.iastore, 1))
    (kk : ∀ (H1 : Heap) (locs1 : List Loc), va_P D tp_CL (tp_wC h a cI cZ (tp_up σ 6 i.toNatClampNeg x)) H1 → va_D A0 (tp_wC h a cI cZ (tp_up σ 6 i.toNatClampNeg x)) → va_S A0 H0 H1 locs1 → W p l e R s m args below meth c H1 locs1 cells slots Q (F0 m (pc + 1) ls rest)) : W p l e R s m args below meth c H locs cells slots Q (F0 m pc ls (.int x :: .int i :: .ref (a 6) :: rest)) :=
  va_iast S.1 S.2.1 hK hP hD hS 7 0 rfl rfl hin hdg (fun H1 l1 hp hd hs => kk H1 l1 hp hd hs)
theorem tp_asM1 {a : Nat → Nat} {cI cZ : ClassId} {σ : tp_St} {i x : Int32} (S : CallFix p m c cc nL s args tp_TB tp_RM) (hK : va_K D tp_CL [(cI, .int), (cZ, .boolean)] s) (hP : va_P D tp_CL (tp_wM h a cI cZ σ) H) (hD : va_D A0 (tp_wM h a cI cZ σ)) (hS : va_S A0 H0 H locs) (hin : vp_in i 12) (hdg : decode cc pc = .ok (.iastore, 1))
    (kk : ∀ (H1 : Heap) (locs1 : List Loc), va_P D tp_CL (tp_wM h a cI cZ (tp_up σ 1 i.toNatClampNeg x)) H1 → va_D A0 (tp_wM h a cI cZ (tp_up σ 1 i.toNatClampNeg x)) → va_S A0 H0 H1 locs1 → W p l e R s m args below meth c H1 locs1 cells slots Q (F0 m (pc + 1) ls rest)) : W p l e R s m args below meth c H locs cells slots Q (F0 m pc ls (.int x :: .int i :: .ref (a 1) :: rest)) :=
  va_iast S.1 S.2.1 hK hP hD hS 1 0 rfl rfl hin hdg (fun H1 l1 hp hd hs => kk H1 l1 hp hd hs)
theorem tp_asM2 {a : Nat → Nat} {cI cZ : ClassId} {σ : tp_St} {i x : Int32} (S : CallFix p m c cc nL s args tp_TB tp_RM) (hK : va_K D tp_CL [(cI, .int), (cZ, .boolean)] s) (hP : va_P D tp_CL (tp_wM h a cI cZ σ) H) (hD : va_D A0 (tp_wM h a cI cZ σ)) (hS : va_S A0 H0 H locs) (hin : vp_in i 12) (hdg : decode cc pc = .ok (.bastore, 1))
    (kk : ∀ (H1 : Heap) (locs1 : List Loc), va_P D tp_CL (tp_wM h a cI cZ (tp_up σ 2 i.toNatClampNeg (vp_nar .boolean x))) H1 → va_D A0 (tp_wM h a cI cZ (tp_up σ 2 i.toNatClampNeg (vp_nar .boolean x))) → va_S A0 H0 H1 locs1 → W p l e R s m args below meth c H1 locs1 cells slots Q (F0 m (pc + 1) ls rest)) : W p l e R s m args below meth c H locs cells slots Q (F0 m pc ls (.int x :: .int i :: .ref (a 2) :: rest)) :=
  va_zast S.1 S.2.1 hK hP hD hS 2 1 rfl rfl hin hdg (fun H1 l1 hp hd hs => kk H1 l1 hp hd hs)
theorem tp_asM3 {a : Nat → Nat} {cI cZ : ClassId} {σ : tp_St} {i x : Int32} (S : CallFix p m c cc nL s args tp_TB tp_RM) (hK : va_K D tp_CL [(cI, .int), (cZ, .boolean)] s) (hP : va_P D tp_CL (tp_wM h a cI cZ σ) H) (hD : va_D A0 (tp_wM h a cI cZ σ)) (hS : va_S A0 H0 H locs) (hin : vp_in i 400) (hdg : decode cc pc = .ok (.bastore, 1))
    (kk : ∀ (H1 : Heap) (locs1 : List Loc), va_P D tp_CL (tp_wM h a cI cZ (tp_up σ 3 i.toNatClampNeg (vp_nar .boolean x))) H1 → va_D A0 (tp_wM h a cI cZ (tp_up σ 3 i.toNatClampNeg (vp_nar .boolean x))) → va_S A0 H0 H1 locs1 → W p l e R s m args below meth c H1 locs1 cells slots Q (F0 m (pc + 1) ls rest)) : W p l e R s m args below meth c H locs cells slots Q (F0 m pc ls (.int x :: .int i :: .ref (a 3) :: rest)) :=
  va_zast S.1 S.2.1 hK hP hD hS 3 1 rfl rfl hin hdg (fun H1 l1 hp hd hs => kk H1 l1 hp hd hs)
theorem tp_asM4 {a : Nat → Nat} {cI cZ : ClassId} {σ : tp_St} {i x : Int32} (S : CallFix p m c cc nL s args tp_TB tp_RM) (hK : va_K D tp_CL [(cI, .int), (cZ, .boolean)] s) (hP : va_P D tp_CL (tp_wM h a cI cZ σ) H) (hD : va_D A0 (tp_wM h a cI cZ σ)) (hS : va_S A0 H0 H locs) (hin : vp_in i 400) (hdg : decode cc pc = .ok (.iastore, 1))
    (kk : ∀ (H1 : Heap) (locs1 : List Loc), va_P D tp_CL (tp_wM h a cI cZ (tp_up σ 4 i.toNatClampNeg x)) H1 → va_D A0 (tp_wM h a cI cZ (tp_up σ 4 i.toNatClampNeg x)) → va_S A0 H0 H1 locs1 → W p l e R s m args below meth c H1 locs1 cells slots Q (F0 m (pc + 1) ls rest)) : W p l e R s m args below meth c H locs cells slots Q (F0 m pc ls (.int x :: .int i :: .ref (a 4) :: rest)) :=
  va_iast S.1 S.2.1 hK hP hD hS 4 0 rfl rfl hin hdg (fun H1 l1 hp hd hs => kk H1 l1 hp hd hs)
theorem tp_asM5 {a : Nat → Nat} {cI cZ : ClassId} {σ : tp_St} {i x : Int32} (S : CallFix p m c cc nL s args tp_TB tp_RM) (hK : va_K D tp_CL [(cI, .int), (cZ, .boolean)] s) (hP : va_P D tp_CL (tp_wM h a cI cZ σ) H) (hD : va_D A0 (tp_wM h a cI cZ σ)) (hS : va_S A0 H0 H locs) (hin : vp_in i 1600) (hdg : decode cc pc = .ok (.iastore, 1))
    (kk : ∀ (H1 : Heap) (locs1 : List Loc), va_P D tp_CL (tp_wM h a cI cZ (tp_up σ 5 i.toNatClampNeg x)) H1 → va_D A0 (tp_wM h a cI cZ (tp_up σ 5 i.toNatClampNeg x)) → va_S A0 H0 H1 locs1 → W p l e R s m args below meth c H1 locs1 cells slots Q (F0 m (pc + 1) ls rest)) : W p l e R s m args below meth c H locs cells slots Q (F0 m pc ls (.int x :: .int i :: .ref (a 5) :: rest)) :=
  va_iast S.1 S.2.1 hK hP hD hS 5 0 rfl rfl hin hdg (fun H1 l1 hp hd hs => kk H1 l1 hp hd hs)
end
theorem tp_wC_fst {h : Nat} {a : Nat → Nat} {cI cZ : ClassId} {σ σ' : tp_St} : (tp_wC h a cI cZ σ').map Prod.fst = (tp_wC h a cI cZ σ).map Prod.fst := rfl
theorem tp_wM_fst {h : Nat} {a : Nat → Nat} {cI cZ : ClassId} {σ σ' : tp_St} : (tp_wM h a cI cZ σ').map Prod.fst = (tp_wM h a cI cZ σ).map Prod.fst := rfl
