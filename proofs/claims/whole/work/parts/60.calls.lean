theorem tp_goodS {own : String} {idx n : Nat} {y : MethodName} {b : ByteArray} {r : Option FieldType} {hh : List (Nat × Nat × Nat × Nat)} (h : tp_inTB [.methodLink own idx y, .static y, .initialized y.cls, .codeWith y b n r hh] = true) : GoodIn tp_TB (va_wsS own idx y (.codeWith y b n r hh :: tp_TB)) := by
  have k := tp_TB_of h
  intro w hw
  have hm : w ∈ tp_TB := by
    rcases List.mem_append.mp (show w ∈ ([.methodLink own idx y, .static y, .initialized y.cls] : List Cond) ++ (Cond.codeWith y b n r hh :: tp_TB) from hw) with h1 | h1
    · exact k w (List.mem_append_left [Cond.codeWith y b n r hh] h1)
    · rcases List.mem_cons.mp h1 with h2 | h2
      · exact k w (by rw [h2]; exact List.mem_append_right ([.methodLink own idx y, .static y, .initialized y.cls] : List Cond) List.mem_cons_self)
      · exact h2
  exact ⟨hm, tp_TB_good hm⟩
section
variable {p : Program} {l : Launch} {e : Env} {R : Room} {s : State} {m : MethodId} {args : Array Value} {below : List Frame} {meth : Method} {c : Code} {H : Heap} {locs : List Loc} {cells slots : Nat} {Q : State → Prop}
variable {cc : ByteArray} {nL pc index n maxL : Nat} {ls : Array Slot} {rest st0 xs : List Value} {D : va_G} {tys : List (ClassId × FieldType)} {ws wc wr w' : va_W} {A0 : Nat → Prop} {H0 : Heap}
variable {own C : String} {T : u_T} {N ci h mc ms : Nat} {fs : List Value} {y : MethodName} {bytes : ByteArray} {ret : Option FieldType} {wl : List Cond} {tp_rm : Room}
theorem tp_kE {P : Option Value → va_W → Prop} {Qa : State → Outcome → State → Prop} (hrun : va_Run p l e R s m args below meth c H locs cells slots mc ms (F0 m pc ls st0) rest Qa (va_A wc H.size))
    (hq : ∀ st oc t, Qa st oc t → ∃ (v : Option Value) (w' : va_W), oc = .returned v ∧ P v w' ∧ va_P D tp_CL w' t.heap ∧ va_F (va_A wc H.size) st t) (hfst : ∀ v w', P v w' → w'.map Prod.fst = wc.map Prod.fst)
    (hP : va_P D tp_CL ws H) (hD : va_D A0 ws) (hS : va_S A0 H0 H locs) (hA : ∀ q : Nat, H0.size ≤ q → A0 q) (isC isR : List Nat) (hC : isC.map (fun i => ws[i]?) = wc.map some) (hR : isR.map (fun i => ws[i]?) = wr.map some) (hnC : va_nd isC = true) (hn : va_nd isR = true) (hdis : ∀ i ∈ isR, i ∉ isC)
    (kk : ∀ (v : Option Value) (w' : va_W) (H1 : Heap) (locs1 : List Loc), P v w' → va_P D tp_CL (wr ++ w') H1 → va_D A0 (wr ++ w') → va_S A0 H0 H1 locs1 → W p l e R s m args below meth c H1 locs1 (cells + mc) (slots + ms) Q (F0 m (pc + 3) ls (v.toList ++ rest))) : W p l e R s m args below meth c H locs cells slots Q (F0 m pc ls st0) := by
  intro T9 hT X
  obtain ⟨v9, st₀, t, T', L, h0, X', hL, e1, e2, hQ, st⟩ := hrun T9 hT X
  obtain ⟨v, w', hv, hp, hPw, hz, hk⟩ := hq _ _ _ hQ
  cases hv
  rw [h0] at hz hk
  have hF := va_free hD hS hA isC hC
  have hDc : va_D (va_A wc H.size) wc := (hD.sub isC hnC hC).self
  obtain ⟨jP, jD⟩ := va_join (w1 := w') hP hD isC isR hC hR hn hdis hk hF hPw (tp_dre hDc (hfst _ w' hp))
  obtain ⟨t2, a1, b1⟩ := kk _ w' T'.heap (locs ++ L) hp (by rw [e1]; exact jP) jD
    ⟨Nat.le_trans hS.1 (by rw [e1]; exact hz), fun q h1 h2 => by rw [e1, hk q (Nat.lt_of_lt_of_le h1 hS.1) (fun z => h2 (hF q z))]; exact hS.2.1 q h1 h2, fun q hq => by
      rcases List.mem_append.mp hq with h | h
      · exact hS.2.2 q h
      · exact hF _ (hL q h)⟩ T' rfl X'
  exact ⟨t2, st t2 a1, b1⟩
theorem tp_kVw {v : Option Value} (S : CallFix p m c cc nL s args tp_TB own) (hK : va_K D tp_CL tys s) (hP : va_P D tp_CL ws H) (hD : va_D A0 ws) (hS : va_S A0 H0 H locs) (hA : ∀ q : Nat, H0.size ≤ q → A0 q) (isC isR : List Nat) (hCf : isC.filterMap (fun i => ws[i]?) = wc) (hC : isC.map (fun i => ws[i]?) = wc.map some) (hR : isR.map (fun i => ws[i]?) = wr.map some) (hnC : va_nd isC = true) (hnR : va_nd isR = true) (hdis : ∀ i ∈ isR, i ∉ isC)
    (he : wc[0]? = some (h, .inr (ci, fs))) (hc : tp_CL[ci]? = some (C, T, N)) (hM : Met l y wl tp_rm (tp_PcW D tys wc H.size (.ref h :: xs)) (tp_qW v D w' (va_A wc H.size)) 0 0 (va_A wc H.size)) (hf1 : w'.map Prod.fst = wc.map Prod.fst) (tp_cw : CallW R s args own C index y bytes maxL ret wl tp_rm 0 0 n) (hn : xs.length = n) (hsz : ls.size = nL) (hst : st0 = xs.reverse ++ .ref h :: rest)
    (hW : (rest.map fun v => v.category).sum ≤ 8) (hdg : decode cc pc = .ok (.invokevirtual index, 3)) (hf : cells ≤ R.cells ∧ slots ≤ R.slots)
    (kk : ∀ (H1 : Heap) (locs1 : List Loc), va_P D tp_CL (wr ++ w') H1 → va_D A0 (wr ++ w') → va_S A0 H0 H1 locs1 → W p l e R s m args below meth c H1 locs1 cells slots Q (F0 m (pc + 3) ls (v.toList ++ rest))) : W p l e R s m args below meth c H locs cells slots Q (F0 m pc ls st0) := by
  have hPc := hP.sub isC hCf
  have hDc := hD.sub isC hnC hC
  have hrun := va_runV (e := e) (below := below) (meth := meth) (H := H) (locs := locs) (cells := cells) (slots := slots) (g := F0 m pc ls st0) (rest := rest) S hM tp_cw
    ⟨tp_blindW, va_recv hK hPc hc he, fun U hU hW9 => ⟨rfl, by rw [hU], by rw [hU]; exact hPc, va_K.moved hW9.alike hK, hDc.weaken (fun _ _ _ _ => trivial)⟩⟩ rfl hn hsz hst (lv_room hW) hdg hf
  exact tp_kE (P := fun v' w'' => v' = v ∧ w'' = w') hrun (fun st oc t z => ⟨v, w', z.1, ⟨rfl, rfl⟩, z.2.1, z.2.2⟩) (fun _ _ z => by rw [z.2]; exact hf1) hP hD hS hA isC isR hC hR hnC hnR hdis
    (fun v9 w9 H1 l1 z a b c => by obtain ⟨z1, z2⟩ := z; subst z1; subst z2; exact kk H1 l1 a b c)
theorem tp_kSW {hh : List (Nat × Nat × Nat × Nat)} {Qc : Array Value → State → Outcome → State → Prop} {P : Option Value → va_W → Prop} (S : CallFix p m c cc nL s args tp_TB own) (hK : va_K D tp_CL tys s) (hX : tp_xZ A0 s) (hP : va_P D tp_CL ws H) (hD : va_D A0 ws) (hS : va_S A0 s.heap H locs) (hA : ∀ q : Nat, s.heap.size ≤ q → A0 q) (isC isR : List Nat) (hCf : isC.filterMap (fun i => ws[i]?) = wc) (hC : isC.map (fun i => ws[i]?) = wc.map some) (hR : isR.map (fun i => ws[i]?) = wr.map some) (hnC : va_nd isC = true) (hnR : va_nd isR = true) (hdis : ∀ i ∈ isR, i ∉ isC)
    (hM : Met l y wl tp_rm (tp_PcX D tys wc H.size xs) Qc mc ms (va_A wc H.size)) (hq : ∀ a st oc t, Qc a st oc t → ∃ (v : Option Value) (w' : va_W), oc = .returned v ∧ P v w' ∧ va_P D tp_CL w' t.heap ∧ va_F (va_A wc H.size) st t) (hfst : ∀ v w', P v w' → w'.map Prod.fst = wc.map Prod.fst)
    (tp_cw : vx_CSW R s args own index y bytes maxL ret hh wl tp_rm mc ms n) (hn : xs.length = n) (hsz : ls.size = nL) (hst : st0 = xs.reverse ++ rest)
    (hW : (rest.map fun v => v.category).sum ≤ 8) (hdg : decode cc pc = .ok (.invokestatic index, 3)) (hf : cells + mc ≤ R.cells ∧ slots + ms ≤ R.slots)
    (kk : ∀ (v : Option Value) (w' : va_W) (H1 : Heap) (locs1 : List Loc), P v w' → va_P D tp_CL (wr ++ w') H1 → va_D A0 (wr ++ w') → va_S A0 s.heap H1 locs1 → W p l e R s m args below meth c H1 locs1 (cells + mc) (slots + ms) Q (F0 m (pc + 3) ls (v.toList ++ rest))) : W p l e R s m args below meth c H locs cells slots Q (F0 m pc ls st0) := by
  have hPc := hP.sub isC hCf
  have hDc := hD.sub isC hnC hC
  have hF := va_free hD hS hA isC hC
  have hrun := vx_runSW (e := e) (below := below) (meth := meth) (H := H) (locs := locs) (cells := cells) (slots := slots) (g := F0 m pc ls st0) (As := xs) (rest := rest) S hM tp_cw
    ⟨tp_blindX, fun U hU hW9 => ⟨rfl, by rw [hU], by rw [hU]; exact hPc, va_K.moved hW9.alike hK, hDc.weaken (fun _ _ _ _ => trivial), tp_xZc hW9.alike hS hU hF hX⟩⟩ rfl hn hsz hst (lv_room hW) hdg hf
  exact tp_kE hrun (fun st oc t z => hq _ st oc t z) hfst hP hD hS hA isC isR hC hR hnC hnR hdis kk
theorem tp_kXT {ks : List Nat} {r : Nat × Int32 × tp_St} {a : Nat → Nat} {cI cZ : ClassId} {σ : tp_St} (S : CallFix p m c cc nL s args tp_TB own) (hK : va_K D tp_CL tys s) (hX : tp_xZ A0 s) (hP : va_P D tp_CL ws H) (hD : va_D A0 ws) (hS : va_S A0 s.heap H locs) (hA : ∀ q : Nat, s.heap.size ≤ q → A0 q) (isC isR : List Nat) (hCf : isC.filterMap (fun i => ws[i]?) = tp_wC h a cI cZ σ) (hC : isC.map (fun i => ws[i]?) = (tp_wC h a cI cZ σ).map some) (hR : isR.map (fun i => ws[i]?) = wr.map some) (hnC : va_nd isC = true) (hnR : va_nd isR = true) (hdis : ∀ i ∈ isR, i ∉ isC)
    (hM : vx_Met l y wl tp_rm (tp_PcX D tys (tp_wC h a cI cZ σ) H.size (.ref h :: xs)) (tp_qTC D h a cI cZ r (va_A (tp_wC h a cI cZ σ) H.size)) (tp_qXC ks D h a cI cZ r (va_A (tp_wC h a cI cZ σ) H.size)) 1 6 (va_A (tp_wC h a cI cZ σ) H.size))
    (tp_cw : CallW R s args own tp_RC index y bytes maxL ret wl tp_rm 1 6 n) (hn : xs.length = n) (hsz : ls.size = nL) (hst : st0 = xs.reverse ++ .ref h :: rest) (hW : (rest.map fun v => v.category).sum ≤ 8) (hdg : decode cc pc = .ok (.invokevirtual index, 3)) (hf : cells + 1 ≤ R.cells ∧ slots + 6 ≤ R.slots)
    (kx : ∀ (k : Nat) (σ' : tp_St) (ce : Cell) (q9 : Addr) (H1 : Heap) (locs1 : List Loc), k ∈ ks → r = (k, 0, σ') → va_P D tp_CL (wr ++ tp_wC h a cI cZ σ') H1 → va_D A0 (wr ++ tp_wC h a cI cZ σ') → va_S A0 s.heap H1 locs1 → H1[q9]? = some ce → ce.vm = .none → s.vm.findClass (tp_xN k) = some ce.cls → vx_W p l e R s m args below meth c H1 locs1 (cells + 1) (slots + 6) Q (F0 m pc ls rest) q9)
    (kk : ∀ (v : Int32) (σ' : tp_St) (H1 : Heap) (locs1 : List Loc), r = (0, v, σ') → va_P D tp_CL (wr ++ tp_wC h a cI cZ σ') H1 → va_D A0 (wr ++ tp_wC h a cI cZ σ') → va_S A0 s.heap H1 locs1 → W p l e R s m args below meth c H1 locs1 (cells + 1) (slots + 6) Q (F0 m (pc + 3) ls (.int v :: rest))) : W p l e R s m args below meth c H locs cells slots Q (F0 m pc ls st0) := by
  have hPc := hP.sub isC hCf
  have hDc := hD.sub isC hnC hC
  have hF := va_free hD hS hA isC hC
  have hrun := vx_runV (e := e) (below := below) (meth := meth) (H := H) (locs := locs) (cells := cells) (slots := slots) (g := F0 m pc ls st0) (As := xs) (rest := rest) S hM tp_cw
    ⟨tp_blindX, va_recv (q := (tp_RC, tp_TC, 8)) (ci := 0) (q0 := 0) hK hPc rfl rfl, fun U hU hW9 => ⟨rfl, by rw [hU], by rw [hU]; exact hPc, va_K.moved hW9.alike hK, hDc.weaken (fun _ _ _ _ => trivial), tp_xZc hW9.alike hS hU hF hX⟩⟩ rfl hn hsz hst (lv_room hW) hdg hf
  refine vx_calli hrun hS (fun q _ z => hF q z) hF (fun q _ z => hF q z) (fun E ce q9 u t H1 locs1 ht hvm hpx hB hz hk hS1 hce hcv hcl => ?_) (fun v u t H1 locs1 ht hvm hpx hB hz hk hS1 => ?_)
  · obtain ⟨hE, hB⟩ := hB
    rw [ht] at hB
    subst hE
    obtain ⟨jP, jD⟩ := va_join (w1 := tp_wC h a cI cZ u.2) hP hD isC isR hC hR hnR hdis hk hF hB (tp_dre hDc.self rfl)
    exact kx u.1 u.2 ce q9 H1 locs1 hpx.1 hpx.2 jP jD hS1 hce hcv hcl
  · rw [ht] at hB
    obtain ⟨jP, jD⟩ := va_join (w1 := tp_wC h a cI cZ u) hP hD isC isR hC hR hnR hdis hk hF hB (tp_dre hDc.self rfl)
    exact kk v u H1 locs1 hpx jP jD hS1
theorem tp_kXN {ks : List Nat} {r : Nat × Int32 × tp_St} {a : Nat → Nat} {cI cZ : ClassId} {σ : tp_St} (S : CallFix p m c cc nL s args tp_TB own) (hK : va_K D tp_CL tys s) (hX : tp_xZ A0 s) (hP : va_P D tp_CL ws H) (hD : va_D A0 ws) (hS : va_S A0 s.heap H locs) (hA : ∀ q : Nat, s.heap.size ≤ q → A0 q) (isC isR : List Nat) (hCf : isC.filterMap (fun i => ws[i]?) = tp_wC h a cI cZ σ) (hC : isC.map (fun i => ws[i]?) = (tp_wC h a cI cZ σ).map some) (hR : isR.map (fun i => ws[i]?) = wr.map some) (hnC : va_nd isC = true) (hnR : va_nd isR = true) (hdis : ∀ i ∈ isR, i ∉ isC)
    (hM : vx_Met l y wl tp_rm (tp_PcX D tys (tp_wC h a cI cZ σ) H.size (.ref h :: xs)) (tp_qNC D h a cI cZ r (va_A (tp_wC h a cI cZ σ) H.size)) (tp_qXC ks D h a cI cZ r (va_A (tp_wC h a cI cZ σ) H.size)) 1 6 (va_A (tp_wC h a cI cZ σ) H.size))
    (tp_cw : CallW R s args own tp_RC index y bytes maxL ret wl tp_rm 1 6 n) (hn : xs.length = n) (hsz : ls.size = nL) (hst : st0 = xs.reverse ++ .ref h :: rest) (hW : (rest.map fun v => v.category).sum ≤ 8) (hdg : decode cc pc = .ok (.invokevirtual index, 3)) (hf : cells + 1 ≤ R.cells ∧ slots + 6 ≤ R.slots)
    (kx : ∀ (k : Nat) (σ' : tp_St) (ce : Cell) (q9 : Addr) (H1 : Heap) (locs1 : List Loc), k ∈ ks → r = (k, 0, σ') → va_P D tp_CL (wr ++ tp_wC h a cI cZ σ') H1 → va_D A0 (wr ++ tp_wC h a cI cZ σ') → va_S A0 s.heap H1 locs1 → H1[q9]? = some ce → ce.vm = .none → s.vm.findClass (tp_xN k) = some ce.cls → vx_W p l e R s m args below meth c H1 locs1 (cells + 1) (slots + 6) Q (F0 m pc ls rest) q9)
    (kk : ∀ (σ' : tp_St) (H1 : Heap) (locs1 : List Loc), r = (0, 0, σ') → va_P D tp_CL (wr ++ tp_wC h a cI cZ σ') H1 → va_D A0 (wr ++ tp_wC h a cI cZ σ') → va_S A0 s.heap H1 locs1 → W p l e R s m args below meth c H1 locs1 (cells + 1) (slots + 6) Q (F0 m (pc + 3) ls rest)) : W p l e R s m args below meth c H locs cells slots Q (F0 m pc ls st0) := by
  have hPc := hP.sub isC hCf
  have hDc := hD.sub isC hnC hC
  have hF := va_free hD hS hA isC hC
  have hrun := vx_runV (e := e) (below := below) (meth := meth) (H := H) (locs := locs) (cells := cells) (slots := slots) (g := F0 m pc ls st0) (As := xs) (rest := rest) S hM tp_cw
    ⟨tp_blindX, va_recv (q := (tp_RC, tp_TC, 8)) (ci := 0) (q0 := 0) hK hPc rfl rfl, fun U hU hW9 => ⟨rfl, by rw [hU], by rw [hU]; exact hPc, va_K.moved hW9.alike hK, hDc.weaken (fun _ _ _ _ => trivial), tp_xZc hW9.alike hS hU hF hX⟩⟩ rfl hn hsz hst (lv_room hW) hdg hf
  refine vx_callv hrun hS (fun q _ z => hF q z) hF (fun q _ z => hF q z) (fun E ce q9 u t H1 locs1 ht hvm hpx hB hz hk hS1 hce hcv hcl => ?_) (fun u t H1 locs1 ht hvm hpx hB hz hk hS1 => ?_)
  · obtain ⟨hE, hB⟩ := hB
    rw [ht] at hB
    subst hE
    obtain ⟨jP, jD⟩ := va_join (w1 := tp_wC h a cI cZ u.2) hP hD isC isR hC hR hnR hdis hk hF hB (tp_dre hDc.self rfl)
    exact kx u.1 u.2 ce q9 H1 locs1 hpx.1 hpx.2 jP jD hS1 hce hcv hcl
  · rw [ht] at hB
    obtain ⟨jP, jD⟩ := va_join (w1 := tp_wC h a cI cZ u) hP hD isC isR hC hR hnR hdis hk hF hB (tp_dre hDc.self rfl)
    exact kk u H1 locs1 hpx jP jD hS1
end
