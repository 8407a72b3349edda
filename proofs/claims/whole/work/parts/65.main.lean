theorem tp_tsw13 {x : Int32} (h0 : ¬ x = 0) (h1 : ¬ x = 1) (h2 : ¬ x = 2) (h3 : ¬ x = 3) (h4 : ¬ x = 4) (h5 : ¬ x = 5) (h6 : ¬ x = 6) (h7 : ¬ x = 7) (h8 : ¬ x = 8) (h9 : ¬ x = 9) (h10 : ¬ x = 10) (h11 : ¬ x = 11) (h12 : ¬ x = 12) (h13 : ¬ x = 13) : x.toInt < 0 ∨ 13 < x.toInt := by
  have a0 := lv_neT (a := 0) h0 (by decide); have a1 := lv_neT (a := 1) h1 (by decide); have a2 := lv_neT (a := 2) h2 (by decide); have a3 := lv_neT (a := 3) h3 (by decide)
  have a4 := lv_neT (a := 4) h4 (by decide); have a5 := lv_neT (a := 5) h5 (by decide); have a6 := lv_neT (a := 6) h6 (by decide); have a7 := lv_neT (a := 7) h7 (by decide)
  have a8 := lv_neT (a := 8) h8 (by decide); have a9 := lv_neT (a := 9) h9 (by decide); have a10 := lv_neT (a := 10) h10 (by decide); have a11 := lv_neT (a := 11) h11 (by decide)
  have a12 := lv_neT (a := 12) h12 (by decide); have a13 := lv_neT (a := 13) h13 (by decide)
  omega
theorem tp_lcond {L j : Nat} (hL : L ≤ 2048) (hj : j ≤ 512) : (tp_nI L - 4 < tp_nI (4 * j)) ↔ L < 4 * j + 4 := by
  by_cases h : 4 ≤ L
  · have e1 : tp_nI L - 4 = tp_nI (L - 4) := (Int32.ofNat_sub L 4 h).symm
    rw [e1, tp_nI_lt (by omega) (by omega)]; omega
  · have h1 : tp_nI L - 4 < 0 := by
      rcases (show L = 0 ∨ L = 1 ∨ L = 2 ∨ L = 3 by omega) with rfl | rfl | rfl | rfl <;> decide
    exact ⟨fun _ => by omega, fun _ => Int32.lt_of_lt_of_le h1 (Int32.not_lt.mp (tp_nI_nn (by omega)))⟩
theorem tp_lin {L j k : Nat} (hL : L ≤ 2048) (h : 4 * j + k < L) : vp_in (tp_nI (4 * j + k)) L := fun z => z.elim (tp_nI_nn (by omega)) (fun z => by rw [tp_nI_t (by omega)] at z; omega)
theorem tp_ladd (j k : Nat) : tp_nI (4 * j) + tp_nI k = tp_nI (4 * j + k) := (Int32.ofNat_add _ _).symm
set_option maxHeartbeats 4000000 in
set_option maxRecDepth 100000 in
theorem tp_law_loop {p : Program} {l : Launch} {e : Env} {R : Room} {s : State} {m : MethodId} {args : Array Value} {below : List Frame} {meth : Method} {c : Code} {Q : State → Prop} {D : va_G} {A0 : Nat → Prop} {h hm o b L : Nat} {a am : Nat → Nat} {cI cZ cJ : ClassId} {xs : Nat → Int32} (hl0 : l.stackTraces = false) (rF : 10 ≤ R.frames) (rL : 356 ≤ R.locals) (S : CallFix p m c tp_bL_law 7 s args tp_TB tp_RL) (hK : va_K D tp_CL [(cI, .int), (cZ, .boolean), (cJ, .long)] s) (hX : tp_xZ A0 s) (hA : ∀ q : Nat, s.heap.size ≤ q → A0 q) (hXs : va_X b L xs s s.heap) (hbl : b < s.heap.size) (hbA : ¬ A0 b) (hRc : 600 ≤ R.cells) (hRs : 9000 ≤ R.slots) (hL : L ≤ 2048)
    (hend : ∀ (cells slots : Nat) (H : Heap) (locs : List Loc) (ls : Array Slot), cells ≤ 600 → slots ≤ 9000 → va_S A0 s.heap H locs → W p l e R s m args below meth c H locs cells slots Q (F0 m 871 ls [])) :
    ∀ (n j : Nat) (σ τ : tp_St) (f : Nat → Int64) (H : Heap) (locs : List Loc) (ls : Array Slot), L < 4 * j + 4 * n → j ≤ 512 → tp_Inv σ → tp_Rel tp_noX σ τ → va_P D tp_CL (tp_wL h a hm am o cI cZ cJ σ τ f) H → va_D A0 (tp_wL h a hm am o cI cZ cJ σ τ f) → va_S A0 s.heap H locs → lv_has ls 7 [(0, .ref b), (1, .ref h), (2, .ref hm), (3, .ref o), (4, .int (tp_nI (4 * j)))] → W p l e R s m args below meth c H locs (15 + j) (5276 + 6 * j) Q (F0 m 23 ls []) := by
  have hx := S.1
  have hb := S.2.1
  intro n
  induction n with
  | zero =>
    intro j σ τ f H locs ls hn hj hI hR hP hD hS hl
    refine lv_iload hx hb dL_law_23 (lv_at hl 4 rfl) ?_
    refine lv_aload_n hx hb dL_law_25 rfl (lv_at hl 0 rfl) ?_
    refine va_slen hx hb hXs hbl hbA hS dL_law_26 ?_
    refine lv_iconst (v := 4) hx hb dL_law_27 (by decide) ?_
    refine lv_isub hx hb dL_law_28 ?_
    refine lv_icmp_gt (tgt := 871) hx hb dL_law_29 (by decide) (fun _ => ?_) (fun z => absurd ((tp_lcond hL hj).mpr (by omega)) z)
    exact hend _ _ H locs ls (by omega) (by omega) hS
  | succ n ih =>
    intro j σ τ f H locs ls hn hj hI hR hP hD hS hl
    refine lv_iload hx hb dL_law_23 (lv_at hl 4 rfl) ?_
    refine lv_aload_n hx hb dL_law_25 rfl (lv_at hl 0 rfl) ?_
    refine va_slen hx hb hXs hbl hbA hS dL_law_26 ?_
    refine lv_iconst (v := 4) hx hb dL_law_27 (by decide) ?_
    refine lv_isub hx hb dL_law_28 ?_
    refine lv_icmp_gt (tgt := 871) hx hb dL_law_29 (by decide) (fun _ => ?_) (fun z => ?_)
    · exact hend _ _ H locs ls (by omega) (by omega) hS
    have hj4 : 4 * j + 4 ≤ L := by
      have := mt (tp_lcond hL hj).mpr z
      omega
    have i1 : vp_in (tp_nI (4 * j) + 1) L := by rw [show (1 : Int32) = tp_nI 1 from rfl, tp_ladd]; exact tp_lin hL (by omega)
    have i2 : vp_in (tp_nI (4 * j) + 2) L := by rw [show (2 : Int32) = tp_nI 2 from rfl, tp_ladd]; exact tp_lin hL (by omega)
    have i3 : vp_in (tp_nI (4 * j) + 3) L := by rw [show (3 : Int32) = tp_nI 3 from rfl, tp_ladd]; exact tp_lin hL (by omega)
    have kk : ∀ (σ' τ' : tp_St) (f' : Nat → Int64) (H' : Heap) (locs' : List Loc) (ls' : Array Slot), tp_Inv σ' → tp_Rel tp_noX σ' τ' → va_P D tp_CL (tp_wL h a hm am o cI cZ cJ σ' τ' f') H' → va_D A0 (tp_wL h a hm am o cI cZ cJ σ' τ' f') → va_S A0 s.heap H' locs' → lv_has ls' 7 [(0, .ref b), (1, .ref h), (2, .ref hm), (3, .ref o), (4, .int (tp_nI (4 * j)))] → W p l e R s m args below meth c H' locs' (15 + j + 1) (5276 + 6 * j + 6) Q (F0 m 865 ls' []) := by
      intro σ τ f H locs ls hI hR hP hD hS hl
      refine lv_iinc (k := 4) (v := tp_nI (4 * (j + 1))) hx hb dL_law_865 hl rfl ((show tp_nI (4 * j) + Int32.ofInt 4 = tp_nI (4 * j) + tp_nI 4 from by rw [show Int32.ofInt 4 = tp_nI 4 from by decide]).trans (tp_ladd j 4)) (by decide) rfl (fun ls hl => ?_)
      refine lv_goto (tgt := 23) hx hb dL_law_868 (by decide) ?_
      refine W.widen (k := 15 + (j + 1)) (n := 5276 + 6 * (j + 1)) (by omega) (by omega) ?_
      exact ih (j + 1) σ τ f H locs ls (by omega) (by omega) hI hR hP hD hS (lv_sub hl [1, 2, 3, 4, 0] rfl)
    refine lv_aload_n hx hb dL_law_32 rfl (lv_at hl 0 rfl) ?_
    refine lv_iload hx hb dL_law_33 (lv_at hl 4 rfl) ?_
    refine va_sld hx hb hXs hbl hbA hS (tp_lin (k := 0) hL (by omega)) dL_law_35 ?_
    refine lv_bipush (v := 15) hx hb dL_law_36 (by decide) ?_
    refine lv_iand hx hb dL_law_38 ?_
    refine lv_topi (fun v hv => ?_)
    by_cases hs0 : v = 0
    · refine lv_tableIn (x := v) (tgt := 108) hx hb dL_law_39 (by rw [hs0]; decide) (by rw [hs0]; decide) (by rw [hs0]; rfl) (by decide) ?_
      exact tp_lc_0 hl0 rF rL S hK hX hA hXs hbl hbA (by omega) (by omega) hI hR hP hD hS i1 i2 i3 hl kk
    by_cases hs1 : v = 1
    · refine lv_tableIn (x := v) (tgt := 156) hx hb dL_law_39 (by rw [hs1]; decide) (by rw [hs1]; decide) (by rw [hs1]; rfl) (by decide) ?_
      exact tp_lc_1 hl0 rF rL S hK hX hA hXs hbl hbA (by omega) (by omega) hI hR hP hD hS i1 i2 i3 hl kk
    by_cases hs2 : v = 2
    · refine lv_tableIn (x := v) (tgt := 200) hx hb dL_law_39 (by rw [hs2]; decide) (by rw [hs2]; decide) (by rw [hs2]; rfl) (by decide) ?_
      exact tp_lc_2 hl0 rF rL S hK hX hA hXs hbl hbA (by omega) (by omega) hI hR hP hD hS i1 i2 i3 hl kk
    by_cases hs3 : v = 3
    · refine lv_tableIn (x := v) (tgt := 256) hx hb dL_law_39 (by rw [hs3]; decide) (by rw [hs3]; decide) (by rw [hs3]; rfl) (by decide) ?_
      exact tp_lc_3 hl0 rF rL S hK hX hA hXs hbl hbA (by omega) (by omega) hI hR hP hD hS i1 i2 i3 hl kk
    by_cases hs4 : v = 4
    · refine lv_tableIn (x := v) (tgt := 312) hx hb dL_law_39 (by rw [hs4]; decide) (by rw [hs4]; decide) (by rw [hs4]; rfl) (by decide) ?_
      exact tp_lc_4 hl0 rF rL S hK hX hA hXs hbl hbA (by omega) (by omega) hI hR hP hD hS i1 i2 i3 hl kk
    by_cases hs5 : v = 5
    · refine lv_tableIn (x := v) (tgt := 372) hx hb dL_law_39 (by rw [hs5]; decide) (by rw [hs5]; decide) (by rw [hs5]; rfl) (by decide) ?_
      exact tp_lc_5 hl0 rF rL S hK hX hA hXs hbl hbA (by omega) (by omega) hI hR hP hD hS i1 i2 i3 hl kk
    by_cases hs6 : v = 6
    · refine lv_tableIn (x := v) (tgt := 440) hx hb dL_law_39 (by rw [hs6]; decide) (by rw [hs6]; decide) (by rw [hs6]; rfl) (by decide) ?_
      exact tp_lc_6 hl0 rF rL S hK hX hA hXs hbl hbA (by omega) (by omega) hI hR hP hD hS i1 i2 i3 hl kk
    by_cases hs7 : v = 7
    · refine lv_tableIn (x := v) (tgt := 496) hx hb dL_law_39 (by rw [hs7]; decide) (by rw [hs7]; decide) (by rw [hs7]; rfl) (by decide) ?_
      exact tp_lc_7 hl0 rF rL S hK hX hA hXs hbl hbA (by omega) (by omega) hI hR hP hD hS i1 i2 i3 hl kk
    by_cases hs8 : v = 8
    · refine lv_tableIn (x := v) (tgt := 552) hx hb dL_law_39 (by rw [hs8]; decide) (by rw [hs8]; decide) (by rw [hs8]; rfl) (by decide) ?_
      exact tp_lc_8 hl0 rF rL S hK hX hA hXs hbl hbA (by omega) (by omega) hI hR hP hD hS i1 i2 i3 hl kk
    by_cases hs9 : v = 9
    · refine lv_tableIn (x := v) (tgt := 588) hx hb dL_law_39 (by rw [hs9]; decide) (by rw [hs9]; decide) (by rw [hs9]; rfl) (by decide) ?_
      exact tp_lc_9 hl0 rF rL S hK hX hA hXs hbl hbA (by omega) (by omega) hI hR hP hD hS i1 i2 i3 hl kk
    by_cases hs10 : v = 10
    · refine lv_tableIn (x := v) (tgt := 601) hx hb dL_law_39 (by rw [hs10]; decide) (by rw [hs10]; decide) (by rw [hs10]; rfl) (by decide) ?_
      exact tp_lc_10 hl0 rF rL S hK hX hA hXs hbl hbA (by omega) (by omega) hI hR hP hD hS i1 i2 i3 hl kk
    by_cases hs11 : v = 11
    · refine lv_tableIn (x := v) (tgt := 657) hx hb dL_law_39 (by rw [hs11]; decide) (by rw [hs11]; decide) (by rw [hs11]; rfl) (by decide) ?_
      exact tp_lc_11 hl0 rF rL S hK hX hA hXs hbl hbA (by omega) (by omega) hI hR hP hD hS i1 i2 i3 hl kk
    by_cases hs12 : v = 12
    · refine lv_tableIn (x := v) (tgt := 741) hx hb dL_law_39 (by rw [hs12]; decide) (by rw [hs12]; decide) (by rw [hs12]; rfl) (by decide) ?_
      exact tp_lc_12 hl0 rF rL S hK hX hA hXs hbl hbA (by omega) (by omega) hI hR hP hD hS i1 i2 i3 hl kk
    by_cases hs13 : v = 13
    · refine lv_tableIn (x := v) (tgt := 809) hx hb dL_law_39 (by rw [hs13]; decide) (by rw [hs13]; decide) (by rw [hs13]; rfl) (by decide) ?_
      exact tp_lc_13 hl0 rF rL S hK hX hA hXs hbl hbA (by omega) (by omega) hI hR hP hD hS i1 i2 i3 hl kk
    refine lv_tableOut (x := v) (tgt := 865) hx hb dL_law_39 (tp_tsw13 hs0 hs1 hs2 hs3 hs4 hs5 hs6 hs7 hs8 hs9 hs10 hs11 hs12 hs13) (by decide) ?_
    refine W.widen (k := 15 + j + 1) (n := 5276 + 6 * j + 6) (by omega) (by omega) ?_
    exact kk σ τ f H locs ls hI hR hP hD hS hl
theorem tp_goodT {y : MethodName} {b : ByteArray} {n : Nat} {r : Option FieldType} (h : tp_inTB [.code y b n r] = true) : GoodIn tp_TB (tp_wsT y b n r) := fun w hw => by
  have hm : w ∈ tp_TB := (List.mem_cons.mp hw).elim (fun z => by rw [z]; exact tp_TB_1 h) id
  exact ⟨hm, tp_TB_good hm⟩
theorem tp_iC_g : GoodIn tp_TB (tp_wsT tp_yC_init tp_bC_init 2 none) := tp_goodT (by decide +kernel)
theorem tp_iM_g : GoodIn tp_TB (tp_wsT tp_yM_init tp_bM_init 1 none) := tp_goodT (by decide +kernel)
theorem tp_iC_ml : Cond.methodLink tp_RL 63 tp_yC_init ∈ tp_TB := tp_TB_1 (by decide +kernel)
theorem tp_iC_im : Cond.instanceMethod tp_yC_init ∈ tp_TB := tp_TB_1 (by decide +kernel)
theorem tp_iC_in : Cond.initialized tp_RC ∈ tp_TB := tp_TB_1 (by decide +kernel)
theorem tp_iC_cl : Cond.classLink tp_RL 8 tp_RC ∈ tp_TB := tp_TB_1 (by decide +kernel)
theorem tp_iC_ib : Cond.instantiable tp_RC 8 ∈ tp_TB := tp_TB_1 (by decide +kernel)
theorem tp_iM_ml : Cond.methodLink tp_RL 66 tp_yM_init ∈ tp_TB := tp_TB_1 (by decide +kernel)
theorem tp_iM_im : Cond.instanceMethod tp_yM_init ∈ tp_TB := tp_TB_1 (by decide +kernel)
theorem tp_iM_in : Cond.initialized tp_RM ∈ tp_TB := tp_TB_1 (by decide +kernel)
theorem tp_iM_cl : Cond.classLink tp_RL 64 tp_RM ∈ tp_TB := tp_TB_1 (by decide +kernel)
theorem tp_iM_ib : Cond.instantiable tp_RM 7 ∈ tp_TB := tp_TB_1 (by decide +kernel)
theorem tp_kA_J : Cond.arrayClass .long ∈ tp_TB := tp_TB_1 (by decide +kernel)
theorem tp_kC_K {D : va_G} {s : State} {args : Array Value} {tys : List (ClassId × FieldType)} (t : FieldType) (ho : ∀ C, t ≠ .object C) (h : (Cond.arrayClass t).before args s = true) (hK : va_K D tp_CL tys s) : ∃ c : ClassId, va_K D tp_CL (tys ++ [(c, t)]) s := by
  obtain ⟨c, k, comp, h1, h2, h3⟩ := Cond.arrayClass_spec h
  refine ⟨c, hK.1, fun j q hk => ?_⟩
  by_cases hl : j < tys.length
  · rw [List.getElem?_append_left hl] at hk
    exact hK.2 j q hk
  · rw [List.getElem?_append_right (by omega)] at hk
    have hz : j - tys.length < 1 := (List.getElem?_eq_some_iff.mp hk).1
    rw [show j - tys.length = 0 by omega] at hk
    cases hk
    refine ⟨fun N z => ⟨(fun q hq => by cases hq), k, h2, comp, h3⟩, ?_⟩
    cases t <;> first | exact h1 | exact absurd rfl (ho _)
set_option maxHeartbeats 4000000 in
set_option maxRecDepth 100000 in
theorem whole_start {p : Program} {e : Env} {s : State} {m : MethodId} {below : List Frame} {meth : Method} {c : Code} (l : Launch) (hl0 : l.stackTraces = false) {b L : Nat} {xs : Nat → Int32} (hL : L ≤ 2048) (C0 : lw_At p s m meth c b L xs) (hX : tp_xZ (fun q => s.heap.size ≤ q) s) : W p l e room_1 s m #[Value.ref b] below meth c s.heap [] 0 0 (lw_Z below #[Value.ref b] s) (entryFrame m ([Value.ref b] : List Value).toArray 7) := by
  obtain ⟨hx, hb, hr, hml, hown, hts, hXs, hbl, hlocks, hgv⟩ := C0
  have hTB : ∀ w ∈ tp_TB, w.before #[Value.ref b] s = true := fun w hw => hts w (List.mem_filter.mp hw).1
  have hown : s.vm.findClass tp_RL = some m.cls := hown
  have S : CallFix p m c tp_bL_law 7 s #[Value.ref b] tp_TB tp_RL := ⟨hx, hb, hml, hown, hTB⟩
  have hA : ∀ q : Nat, s.heap.size ≤ q → (fun q => s.heap.size ≤ q) q := fun q z => z
  generalize hAe : (fun q : Nat => s.heap.size ≤ q) = A0 at hX hA
  have hbA : ¬ A0 b := by rw [← hAe]; exact Nat.not_le.mpr hbl
  obtain ⟨D, hK⟩ : ∃ D : va_G, va_K D tp_CL [] s := by
    obtain ⟨cC, iC, kC⟩ := u_known hTB tp_inC (hTB _ tp_iC_ib)
    obtain ⟨cM, iM, kM⟩ := u_known hTB tp_inM (hTB _ tp_iM_ib)
    refine ⟨(fun k => if k = 0 then cC else cM, fun k => if k = 0 then iC else iM), fun k q hq => ?_, fun k q hq => nomatch hq⟩
    rcases (show k = 0 ∨ k = 1 ∨ 2 ≤ k by omega) with rfl | rfl | z
    · cases hq; exact kC
    · cases hq; exact kM
    · rw [List.getElem?_eq_none (by exact z)] at hq; cases hq
  obtain ⟨cI, hK⟩ := tp_kC_K .int (fun _ z => nomatch z) (hTB _ tp_kA_I) hK
  obtain ⟨cZ, hK⟩ := tp_kC_K .boolean (fun _ z => nomatch z) (hTB _ tp_kA_Z) hK
  have hK : va_K D tp_CL [(cI, .int), (cZ, .boolean)] s := hK
  have hP : va_P D tp_CL [] s.heap := fun k q hk => nomatch hk
  have hD : va_D A0 [] := ⟨fun i j p q hi => (nomatch hi), fun k q hk => (nomatch hk)⟩
  have hS : va_S A0 s.heap s.heap [] := va_S.rf
  have hl := lv_entry ([.ref b]) (n := 7) (Nat.le_of_ble_eq_true rfl)
  rw [lg_entry_eq]
  generalize (lg_sl ([.ref b]) ++ List.replicate (7 - (lg_sl ([.ref b])).length) Slot.unset).toArray = ls at hl ⊢
  have hl : lv_has ls 7 [(0, .ref b)] := hl
  refine va_new (ci := 0) (fs := [.null, .null, .null, .null, .null, .null, .null, .int 0]) (C := tp_RC) (T := tp_TC) (N := 8) hx hb hTB tp_inC tp_tyC tp_tyC_ok hown (hTB _ tp_iC_cl) (hTB _ tp_iC_ib) (hTB _ tp_iC_in) hK hP hD hS hA rfl (fun j hj => by rcases (show j = 0 ∨ j = 1 ∨ j = 2 ∨ j = 3 ∨ j = 4 ∨ j = 5 ∨ j = 6 ∨ j = 7 by omega) with rfl | rfl | rfl | rfl | rfl | rfl | rfl | rfl <;> rfl) (Nat.le_of_ble_eq_true rfl) (Nat.le_of_ble_eq_true rfl) dL_law_0 (fun h H hP hD hS => ?_)
  have hP : va_P D tp_CL [(h, .inr (0, [.null, .null, .null, .null, .null, .null, .null, .int 0]))] H := hP
  have hD : va_D A0 [(h, .inr (0, [.null, .null, .null, .null, .null, .null, .null, .int 0]))] := hD
  refine lv_dup hx hb dL_law_3 rfl ?_
  have hF := va_free (wc := [(h, .inr (0, [.null, .null, .null, .null, .null, .null, .null, .int 0]))]) hD hS hA [0] rfl
  refine va_callv (va_runI (As := []) (rest := [.ref h]) S (cC_init l D h cI cZ H.size) (cwI 0 hTB tp_iC_g rfl rfl rfl (hTB _ tp_iC_in) (hTB _ tp_iC_ml) (hTB _ tp_iC_im) rfl ⟨by decide, by decide, by decide +kernel⟩ ⟨Nat.le_of_ble_eq_true rfl, Nat.le_of_ble_eq_true rfl⟩) ⟨tp_blindW, fun U hU hW9 => ⟨rfl, by rw [hU], by rw [hU]; exact hP, va_K.moved hW9.alike hK, hD.weaken (fun _ _ _ _ => trivial)⟩⟩ rfl rfl hl.1 rfl (lv_room (Nat.le_of_ble_eq_true rfl)) dL_law_4 ⟨Nat.le_of_ble_eq_true rfl, Nat.le_of_ble_eq_true rfl⟩) hS (fun q _ z => hF q z) hF (fun u t H1 locs1 ht hvm hst hB hz hk hS => ?_)
  obtain ⟨a, σ⟩ := u
  obtain ⟨hB1, hB2⟩ := hB
  rw [ht] at hB1
  obtain ⟨hP, hD⟩ := va_join (wr := []) (w1 := tp_wC h a cI cZ σ) hP hD [0] [] rfl rfl (by decide) (by decide) hk hF hB1 hB2
  generalize H1 = H at hP hS ⊢
  generalize locs1 = locs at hS ⊢
  have hP : va_P D tp_CL (tp_wC h a cI cZ σ) H := hP
  have hD : va_D A0 (tp_wC h a cI cZ σ) := hD
  refine lv_astore_n hx hb dL_law_7 rfl hl (by decide) rfl (fun ls hl => ?_)
  have hl : lv_has ls 7 [(1, .ref h), (0, .ref b)] := hl
  refine va_new (ci := 1) (fs := [.int 0, .null, .null, .null, .null, .null, .int 0]) (C := tp_RM) (T := tp_TM) (N := 7) hx hb hTB tp_inM tp_tyM tp_tyM_ok hown (hTB _ tp_iM_cl) (hTB _ tp_iM_ib) (hTB _ tp_iM_in) hK hP hD hS hA rfl (fun j hj => by rcases (show j = 0 ∨ j = 1 ∨ j = 2 ∨ j = 3 ∨ j = 4 ∨ j = 5 ∨ j = 6 by omega) with rfl | rfl | rfl | rfl | rfl | rfl | rfl <;> rfl) (Nat.le_of_ble_eq_true rfl) (Nat.le_of_ble_eq_true rfl) dL_law_8 (fun hm H hP hD hS => ?_)
  have hP : va_P D tp_CL (tp_wC h a cI cZ σ ++ [(hm, .inr (1, [.int 0, .null, .null, .null, .null, .null, .int 0]))]) H := hP
  have hD : va_D A0 (tp_wC h a cI cZ σ ++ [(hm, .inr (1, [.int 0, .null, .null, .null, .null, .null, .int 0]))]) := hD
  refine lv_dup hx hb dL_law_11 rfl ?_
  have hF := va_free (wc := [(hm, .inr (1, [.int 0, .null, .null, .null, .null, .null, .int 0]))]) hD hS hA [8] rfl
  have hPc := hP.sub (ws' := [(hm, .inr (1, [.int 0, .null, .null, .null, .null, .null, .int 0]))]) [8] rfl
  have hDc := hD.sub (ws' := [(hm, .inr (1, [.int 0, .null, .null, .null, .null, .null, .int 0]))]) [8] (by decide) rfl
  refine va_callv (va_runI (As := []) (rest := [.ref hm]) S (cM_init l D hm cI cZ H.size) (cwI 0 hTB tp_iM_g rfl rfl rfl (hTB _ tp_iM_in) (hTB _ tp_iM_ml) (hTB _ tp_iM_im) rfl ⟨by decide, by decide, by decide +kernel⟩ ⟨Nat.le_of_ble_eq_true rfl, Nat.le_of_ble_eq_true rfl⟩) ⟨tp_blindW, fun U hU hW9 => ⟨rfl, by rw [hU], by rw [hU]; exact hPc, va_K.moved hW9.alike hK, hDc.weaken (fun _ _ _ _ => trivial)⟩⟩ rfl rfl hl.1 rfl (lv_room (Nat.le_of_ble_eq_true rfl)) dL_law_12 ⟨Nat.le_of_ble_eq_true rfl, Nat.le_of_ble_eq_true rfl⟩) hS (fun q _ z => hF q z) hF (fun u t H1 locs1 ht hvm hst2 hB hz hk hS => ?_)
  obtain ⟨am, τ⟩ := u
  obtain ⟨hB1, hB2⟩ := hB
  rw [ht] at hB1
  obtain ⟨hP, hD⟩ := va_join (wr := tp_wC h a cI cZ σ) (w1 := tp_wM hm am cI cZ τ) hP hD [8] [0, 1, 2, 3, 4, 5, 6, 7] rfl rfl (by decide) (by decide) hk hF hB1 hB2
  generalize H1 = H at hP hS ⊢
  generalize locs1 = locs at hS ⊢
  refine lv_astore_n hx hb dL_law_15 rfl hl (by decide) rfl (fun ls hl => ?_)
  have hl : lv_has ls 7 [(2, .ref hm), (1, .ref h), (0, .ref b)] := hl
  refine lv_iconst (v := 1) hx hb dL_law_16 (by decide) ?_
  refine va_newa (N' := 1) (atype := .long) (ty := .long) (a0 := (1, .inr (.inl (fun _ => 0)))) hx hb (hTB _ tp_kA_J) rfl hK hP hD hS hA (fun _ => by first | rfl | (rw [vp_cell_l]; rfl)) (by decide) (by decide) (by decide) (Nat.le_of_ble_eq_true rfl) (Nat.le_of_ble_eq_true rfl) dL_law_17 (fun o cJ H hK hP hD hS => ?_)
  have hK : va_K D tp_CL [(cI, .int), (cZ, .boolean), (cJ, .long)] s := hK
  have hP : va_P D tp_CL (tp_wL h a hm am o cI cZ cJ σ τ (fun _ => 0)) H := hP.sub [8, 9, 10, 11, 12, 13, 14, 0, 1, 2, 3, 4, 5, 6, 7] rfl
  have hD : va_D A0 (tp_wL h a hm am o cI cZ cJ σ τ (fun _ => 0)) := hD.sub [8, 9, 10, 11, 12, 13, 14, 0, 1, 2, 3, 4, 5, 6, 7] (by decide) rfl
  refine lv_astore_n hx hb dL_law_19 rfl hl (by decide) rfl (fun ls hl => ?_)
  have hl : lv_has ls 7 [(3, .ref o), (2, .ref hm), (1, .ref h), (0, .ref b)] := hl
  refine lv_iconst (v := 0) hx hb dL_law_20 (by decide) ?_
  refine lv_istore hx hb dL_law_21 hl (by decide) rfl (fun ls hl => ?_)
  have hl : lv_has ls 7 [(4, .int 0), (3, .ref o), (2, .ref hm), (1, .ref h), (0, .ref b)] := hl
  refine W.widen (k := 15 + 0) (n := 5276 + 6 * 0) (Nat.le_of_ble_eq_true rfl) (Nat.le_of_ble_eq_true rfl) ?_
  obtain ⟨s1, s2, s3, s4⟩ := hst
  obtain ⟨t1, t2, t3, tp_t4⟩ := hst2
  have hI : tp_Inv σ := tp_start_inv s1 s2
  have hR : tp_Rel tp_noX σ τ := tp_start_rel (fun d hd => ⟨(s1 d hd).1, t1 d hd⟩) (fun c hc => ⟨(s2 c hc).1, (s2 c hc).2.1, (s2 c hc).2.2, (t2 c hc).1, (t2 c hc).2⟩) (fun k hk => ⟨s3 k hk, t3 k hk⟩) s4 tp_t4
  refine tp_law_loop hl0 (Nat.le_of_ble_eq_true rfl) (Nat.le_of_ble_eq_true rfl) S hK hX hA hXs hbl hbA (Nat.le_of_ble_eq_true rfl) (Nat.le_of_ble_eq_true rfl) hL (fun cells slots H locs ls h1 h2 hS => ?_) (L / 4 + 1) 0 σ τ (fun _ => 0) H locs ls (by omega) (by omega) hI hR hP hD hS (lv_sub hl [4, 3, 2, 1, 0] rfl)
  refine va_forget (fun q hq => by have := hS.2.2 q hq; rw [← hAe] at this; exact this) ?_
  refine lv_iconst (v := 1) hx hb dL_law_871 (by decide) ?_
  refine W.widen (k := room_1.cells) (n := room_1.slots) (Nat.le_trans h1 (Nat.le_of_ble_eq_true rfl)) (Nat.le_trans h2 (Nat.le_of_ble_eq_true rfl)) ?_
  exact lw_ret hx hb hr hlocks dL_law_872
theorem tp_ng_in : tp_NGl.all (fun w => decide (w ∈ lw_tbl)) = true := by decide +kernel
theorem tp_xZ0 {s : State} {b : Nat} (hts : ∀ w ∈ lw_tbl, w.before #[Value.ref b] s = true) (hgv : (Jvm.Cond.and given_1 narrow_1).before #[Value.ref b] s = true) : tp_xZ (fun q => s.heap.size ≤ q) s := by
  have hf := flat_of_before _ hgv
  have hini : (Cond.initialized Bundle.tN).before #[Value.ref b] s = true := hts _ (by decide +kernel)
  refine ⟨vx_Zqof (hts _ (by decide +kernel)) hini (hf _ (by decide +kernel)) (fun a h => Nat.not_le.mpr h), vx_Zqof (hts _ (by decide +kernel)) hini (hf _ (by decide +kernel)) (fun a h => Nat.not_le.mpr h), tp_ng_moved (Vm.Alike.refl s.vm) (fun w hw => hts w (of_decide_eq_true (List.all_eq_true.mp tp_ng_in w hw))), ?_⟩
  exact ⟨va_Nc.of (hf _ (by decide +kernel)), va_Nc.of (hf _ (by decide +kernel)), va_Nc.of (hf _ (by decide +kernel)), va_Nc.of (hf _ (by decide +kernel)), va_Nc.of (hf _ (by decide +kernel))⟩
