theorem tp_gS_disk : GoodIn tp_TB (va_wsS tp_RL 67 tp_yL_disk (.codeWith tp_yL_disk tp_bL_disk 4 (some .int) tp_hhL_disk :: tp_TB)) := tp_goodS (by decide +kernel)
theorem tp_gS_chunk : GoodIn tp_TB (va_wsS tp_RL 76 tp_yL_chunk (.codeWith tp_yL_chunk tp_bL_chunk 3 (some .int) tp_hhL_chunk :: tp_TB)) := tp_goodS (by decide +kernel)
theorem tp_gS_chunks : GoodIn tp_TB (va_wsS tp_RL 80 tp_yL_chunks (.codeWith tp_yL_chunks tp_bL_chunks 4 (some .int) tp_hhL_chunks :: tp_TB)) := tp_goodS (by decide +kernel)
theorem tp_gS_free : GoodIn tp_TB (va_wsS tp_RL 84 tp_yL_free (.codeWith tp_yL_free tp_bL_free 4 (some .int) tp_hhL_free :: tp_TB)) := tp_goodS (by decide +kernel)
theorem tp_gS_write : GoodIn tp_TB (va_wsS tp_RL 87 tp_yL_write (.codeWith tp_yL_write tp_bL_write 5 (some .int) tp_hhL_write :: tp_TB)) := tp_goodS (by decide +kernel)
theorem tp_gS_read : GoodIn tp_TB (va_wsS tp_RL 91 tp_yL_read (.codeWith tp_yL_read tp_bL_read 5 (some .int) tp_hhL_read :: tp_TB)) := tp_goodS (by decide +kernel)
theorem tp_gS_fail : GoodIn tp_TB (va_wsS tp_RL 95 tp_yL_fail (.codeWith tp_yL_fail tp_bL_fail 4 (some .int) tp_hhL_fail :: tp_TB)) := tp_goodS (by decide +kernel)
theorem tp_gS_leave : GoodIn tp_TB (va_wsS tp_RL 98 tp_yL_leave (.codeWith tp_yL_leave tp_bL_leave 4 (some .int) tp_hhL_leave :: tp_TB)) := tp_goodS (by decide +kernel)
theorem tp_gS_stay : GoodIn tp_TB (va_wsS tp_RL 101 tp_yL_stay (.codeWith tp_yL_stay tp_bL_stay 3 (some .int) tp_hhL_stay :: tp_TB)) := tp_goodS (by decide +kernel)
theorem tp_gS_steps : GoodIn tp_TB (va_wsS tp_RL 109 tp_yL_steps (.codeWith tp_yL_steps tp_bL_steps 4 (some .int) tp_hhL_steps :: tp_TB)) := tp_goodS (by decide +kernel)
theorem tp_gS_place : GoodIn tp_TB (va_wsS tp_RL 112 tp_yL_place (.codeWith tp_yL_place tp_bL_place 5 (some .int) tp_hhL_place :: tp_TB)) := tp_goodS (by decide +kernel)
theorem tp_gS_about : GoodIn tp_TB (va_wsS tp_RL 116 tp_yL_about (.codeWith tp_yL_about tp_bL_about 5 (some .int) tp_hhL_about :: tp_TB)) := tp_goodS (by decide +kernel)
theorem tp_gS_count : GoodIn tp_TB (va_wsS tp_RL 119 tp_yL_count (.codeWith tp_yL_count tp_bL_count 4 (some .int) tp_hhL_count :: tp_TB)) := tp_goodS (by decide +kernel)
abbrev tp_wL (h : Nat) (a : Nat → Nat) (hm : Nat) (am : Nat → Nat) (o : Nat) (cI cZ cJ : ClassId) (σ τ : tp_St) (f : Nat → Int64) : va_W := tp_wM hm am cI cZ τ ++ (o, .inl (cJ, 1, .inr (.inl f))) :: tp_wC h a cI cZ σ
theorem tp_lcmp_z {x y : Int64} (h : x = y) : lg_cmp x y = 0 := by rw [h]; simp [lg_cmp]
theorem tp_nI_z {n : Nat} (h : n < 5) (z : tp_nI n = 0) : n = 0 := by
  rcases (show n = 0 ∨ n = 1 ∨ n = 2 ∨ n = 3 ∨ n = 4 by omega) with rfl | rfl | rfl | rfl | rfl
  · rfl
  all_goals exact absurd z (by decide)
theorem tp_mp1_z {k : Nat} (h : k < 5) (z : tp_nI (tp_mp1 k) = 0) : k = 0 := by
  have h1 := tp_nI_z (n := tp_mp1 k) (by unfold tp_mp1; split <;> omega) z
  unfold tp_mp1 at h1; split at h1 <;> omega
theorem tp_mpI_z {k : Nat} (h : k < 5) (z : tp_nI (tp_mpI k) = 0) : k = 0 := tp_nI_z (n := k) h z
theorem tp_mpL_z {k : Nat} (h : k < 5) (z : tp_nI (tp_mpL k) = 0) : k = 0 := by
  have h1 := tp_nI_z (n := tp_mpL k) (by unfold tp_mpL; split <;> omega) z
  unfold tp_mpL at h1; split at h1 <;> omega
theorem tp_mpA_z {k : Nat} (h : k < 5) (z : tp_nI (tp_mpA k) = 0) : k = 0 := by
  have h1 := tp_nI_z (n := tp_mpA k) (by unfold tp_mpA; split <;> omega) z
  unfold tp_mpA at h1; split at h1 <;> omega
set_option maxHeartbeats 4000000 in
set_option maxRecDepth 100000 in
theorem tp_lc_0 {p : Program} {l : Launch} {e : Env} {R : Room} {s : State} {m : MethodId} {args : Array Value} {below : List Frame} {meth : Method} {c : Code} {H : Heap} {locs : List Loc} {cells slots : Nat} {Q : State → Prop} {ls : Array Slot} {D : va_G} {A0 : Nat → Prop} {h hm o b L : Nat} {a am : Nat → Nat} {cI cZ cJ : ClassId} {σ τ : tp_St} {f : Nat → Int64} {xs : Nat → Int32} {i : Int32} (hl0 : l.stackTraces = false) (rF : 10 ≤ R.frames) (rL : 356 ≤ R.locals) (S : CallFix p m c tp_bL_law 7 s args tp_TB tp_RL) (hK : va_K D tp_CL [(cI, .int), (cZ, .boolean), (cJ, .long)] s) (hX : tp_xZ A0 s) (hA : ∀ q : Nat, s.heap.size ≤ q → A0 q) (hXs : va_X b L xs s s.heap) (hbl : b < s.heap.size) (hbA : ¬ A0 b) (hc : cells + 1 ≤ R.cells) (hs : slots + 6 ≤ R.slots)
    (hI : tp_Inv σ) (hR : tp_Rel tp_noX σ τ) (hP : va_P D tp_CL (tp_wL h a hm am o cI cZ cJ σ τ f) H) (hD : va_D A0 (tp_wL h a hm am o cI cZ cJ σ τ f)) (hS : va_S A0 s.heap H locs) (i1 : vp_in (i + 1) L) (i2 : vp_in (i + 2) L) (i3 : vp_in (i + 3) L) (hl : lv_has ls 7 [(0, .ref b), (1, .ref h), (2, .ref hm), (3, .ref o), (4, .int i)])
    (kk : ∀ (σ' τ' : tp_St) (f' : Nat → Int64) (H' : Heap) (locs' : List Loc) (ls' : Array Slot), tp_Inv σ' → tp_Rel tp_noX σ' τ' → va_P D tp_CL (tp_wL h a hm am o cI cZ cJ σ' τ' f') H' → va_D A0 (tp_wL h a hm am o cI cZ cJ σ' τ' f') → va_S A0 s.heap H' locs' → lv_has ls' 7 [(0, .ref b), (1, .ref h), (2, .ref hm), (3, .ref o), (4, .int i)] → W p l e R s m args below meth c H' locs' (cells + 1) (slots + 6) Q (F0 m 865 ls' [])) : W p l e R s m args below meth c H locs cells slots Q (F0 m 108 ls []) := by
  have hx := S.1
  have hb := S.2.1
  have hTB := S.2.2.2.2
  refine lv_aload_n hx hb dL_law_108 rfl (lv_at hl 1 rfl) ?_
  refine lv_aload_n hx hb dL_law_109 rfl (lv_at hl 0 rfl) ?_
  refine lv_iload hx hb dL_law_110 (lv_at hl 4 rfl) ?_
  refine lv_iconst (v := 1) hx hb dL_law_112 (by decide) ?_
  refine lv_iadd hx hb dL_law_113 ?_
  refine va_sld hx hb hXs hbl hbA hS i1 dL_law_114 ?_
  refine lv_aload_n hx hb dL_law_115 rfl (lv_at hl 0 rfl) ?_
  refine lv_iload hx hb dL_law_116 (lv_at hl 4 rfl) ?_
  refine lv_iconst (v := 2) hx hb dL_law_118 (by decide) ?_
  refine lv_iadd hx hb dL_law_119 ?_
  refine va_sld hx hb hXs hbl hbA hS i2 dL_law_120 ?_
  obtain ⟨k, v, σ', τ', e1, e2, I', R', t0, hk5⟩ := tp_disk_sim hI hR (xs (i + 1).toNatClampNeg) (xs (i + 2).toNatClampNeg)
  refine tp_kSW (wr := tp_wM hm am cI cZ τ ++ [(o, .inl (cJ, 1, .inr (.inl f)))]) (xs := [.ref h, .int (xs (i + 1).toNatClampNeg), .int (xs (i + 2).toNatClampNeg)]) (rest := []) (P := fun vv w' => vv = some (.int (tp_nI (tp_mpI k))) ∧ w' = tp_wC h a cI cZ σ') S (hK.sub (tys' := [(cI, .int), (cZ, .boolean)]) [0, 1] rfl) hX hP hD hS hA [7, 8, 9, 10, 11, 12, 13, 14] [0, 1, 2, 3, 4, 5, 6] rfl rfl rfl (by decide) (by decide) (by decide) (cL_disk l hl0 D h a cI cZ _ σ (xs (i + 1).toNatClampNeg) (xs (i + 2).toNatClampNeg) (k, v, σ') e1) (fun a st oc t z => ⟨_, _, z.1, ⟨rfl, rfl⟩, z.2.1, z.2.2⟩) (fun vv w' z => by obtain ⟨-, rfl⟩ := z; rfl) (vx_cwSW 3 hTB tp_gS_disk rfl rfl rfl ⟨by decide, by decide, by decide +kernel⟩ ⟨Nat.le_trans (Nat.le_of_ble_eq_true rfl) rF, Nat.le_trans (Nat.le_of_ble_eq_true rfl) rL⟩) rfl hl.1 rfl (Nat.le_of_ble_eq_true rfl) dL_law_121 ⟨hc, hs⟩ (fun vv w' H locs z hP hD hS => ?_)
  obtain ⟨rfl, rfl⟩ := z
  have hP : va_P D tp_CL (tp_wL h a hm am o cI cZ cJ σ' τ f) H := hP
  have hD : va_D A0 (tp_wL h a hm am o cI cZ cJ σ' τ f) := hD
  refine W.eq (g2 := F0 m 124 ls [.int (tp_nI (tp_mpI k))]) rfl ?_
  refine lv_istore hx hb dL_law_124 hl (by decide) rfl (fun ls hl => ?_)
  have hl : lv_has ls 7 [(5, .int (tp_nI (tp_mpI k))), (0, .ref b), (1, .ref h), (2, .ref hm), (3, .ref o), (4, .int i)] := hl
  refine lv_aload_n hx hb dL_law_126 rfl (lv_at hl 3 rfl) ?_
  refine lv_aload_n hx hb dL_law_127 rfl (lv_at hl 1 rfl) ?_
  refine lv_iload hx hb dL_law_128 (lv_at hl 5 rfl) ?_
  refine lv_iconst (v := 1) hx hb dL_law_130 (by decide) ?_
  refine lv_iadd hx hb dL_law_131 ?_
  refine va_sld hx hb hXs hbl hbA hS i1 dL_law_132 ?_
  refine lv_aload_n hx hb dL_law_133 rfl (lv_at hl 1 rfl) ?_
  refine lv_iload hx hb dL_law_134 (lv_at hl 5 rfl) ?_
  refine lv_iconst (v := 2) hx hb dL_law_136 (by decide) ?_
  refine lv_iadd hx hb dL_law_137 ?_
  refine va_sld hx hb hXs hbl hbA hS i2 dL_law_138 ?_
  refine tp_kVw (v := none) (w' := tp_wM hm am cI cZ τ') (wr := (o, .inl (cJ, 1, .inr (.inl f))) :: tp_wC h a cI cZ σ') (xs := [.int (xs (i + 1).toNatClampNeg), .int (xs (i + 2).toNatClampNeg)]) (rest := []) S (hK.sub (tys' := [(cI, .int), (cZ, .boolean)]) [0, 1] rfl) hP hD hS hA [0, 1, 2, 3, 4, 5] [6, 7, 8, 9, 10, 11, 12, 13, 14] rfl rfl rfl (by decide) (by decide) (by decide) rfl rfl (cM_disk l D hm am cI cZ _ τ (xs (i + 1).toNatClampNeg) (xs (i + 2).toNatClampNeg) τ' e2) rfl (cwV 2 hTB tp_gL_M_disk rfl rfl rfl ⟨rfl, by decide, by decide, by decide +kernel⟩ ⟨Nat.le_trans (Nat.le_of_ble_eq_true rfl) rF, Nat.le_trans (Nat.le_of_ble_eq_true rfl) rL⟩) rfl hl.1 rfl (Nat.le_of_ble_eq_true rfl) dL_law_139 ⟨hc, hs⟩ (fun H locs hP hD hS => ?_)
  have hP : va_P D tp_CL (tp_wL h a hm am o cI cZ cJ σ' τ' f) H := hP.sub [9, 10, 11, 12, 13, 14, 0, 1, 2, 3, 4, 5, 6, 7, 8] rfl
  have hD : va_D A0 (tp_wL h a hm am o cI cZ cJ σ' τ' f) := hD.sub [9, 10, 11, 12, 13, 14, 0, 1, 2, 3, 4, 5, 6, 7, 8] (by decide) rfl
  refine lv_aload_n hx hb dL_law_142 rfl (lv_at hl 3 rfl) ?_
  refine tp_kP (w := tp_wM hm am cI cZ τ') (r := τ' 0 0) (rest := []) S (hK.sub (tys' := [(cI, .int), (cZ, .boolean)]) [0, 1] rfl) (hP.sub [0, 1, 2, 3, 4, 5] rfl) (hD.sub (ws' := tp_wM hm am cI cZ τ') [0, 1, 2, 3, 4, 5] (by decide) rfl) rfl rfl (cM_thrown l D hm am cI cZ _ τ' (τ' 0 0) rfl) (cwV 0 hTB tp_gL_M_thrown rfl rfl rfl ⟨rfl, by decide, by decide, by decide +kernel⟩ ⟨Nat.le_trans (Nat.le_of_ble_eq_true rfl) rF, Nat.le_trans (Nat.le_of_ble_eq_true rfl) rL⟩) rfl hl.1 rfl (Nat.le_of_ble_eq_true rfl) dL_law_143 ⟨hc, hs⟩ ?_
  refine lv_iload hx hb dL_law_146 (lv_at hl 0 rfl) ?_
  refine lv_icmp_eq (tgt := 153) hx hb dL_law_148 (by decide) (fun _ => ?_) (fun z => absurd t0 z)
  refine lv_goto (tgt := 865) hx hb dL_law_153 (by decide) ?_
  exact kk (σ') (τ') f H locs ls I' R' hP hD hS (lv_sub hl [1, 2, 3, 4, 5] rfl)
set_option maxHeartbeats 4000000 in
set_option maxRecDepth 100000 in
theorem tp_lc_1 {p : Program} {l : Launch} {e : Env} {R : Room} {s : State} {m : MethodId} {args : Array Value} {below : List Frame} {meth : Method} {c : Code} {H : Heap} {locs : List Loc} {cells slots : Nat} {Q : State → Prop} {ls : Array Slot} {D : va_G} {A0 : Nat → Prop} {h hm o b L : Nat} {a am : Nat → Nat} {cI cZ cJ : ClassId} {σ τ : tp_St} {f : Nat → Int64} {xs : Nat → Int32} {i : Int32} (hl0 : l.stackTraces = false) (rF : 10 ≤ R.frames) (rL : 356 ≤ R.locals) (S : CallFix p m c tp_bL_law 7 s args tp_TB tp_RL) (hK : va_K D tp_CL [(cI, .int), (cZ, .boolean), (cJ, .long)] s) (hX : tp_xZ A0 s) (hA : ∀ q : Nat, s.heap.size ≤ q → A0 q) (hXs : va_X b L xs s s.heap) (hbl : b < s.heap.size) (hbA : ¬ A0 b) (hc : cells + 1 ≤ R.cells) (hs : slots + 6 ≤ R.slots)
    (hI : tp_Inv σ) (hR : tp_Rel tp_noX σ τ) (hP : va_P D tp_CL (tp_wL h a hm am o cI cZ cJ σ τ f) H) (hD : va_D A0 (tp_wL h a hm am o cI cZ cJ σ τ f)) (hS : va_S A0 s.heap H locs) (i1 : vp_in (i + 1) L) (i2 : vp_in (i + 2) L) (i3 : vp_in (i + 3) L) (hl : lv_has ls 7 [(0, .ref b), (1, .ref h), (2, .ref hm), (3, .ref o), (4, .int i)])
    (kk : ∀ (σ' τ' : tp_St) (f' : Nat → Int64) (H' : Heap) (locs' : List Loc) (ls' : Array Slot), tp_Inv σ' → tp_Rel tp_noX σ' τ' → va_P D tp_CL (tp_wL h a hm am o cI cZ cJ σ' τ' f') H' → va_D A0 (tp_wL h a hm am o cI cZ cJ σ' τ' f') → va_S A0 s.heap H' locs' → lv_has ls' 7 [(0, .ref b), (1, .ref h), (2, .ref hm), (3, .ref o), (4, .int i)] → W p l e R s m args below meth c H' locs' (cells + 1) (slots + 6) Q (F0 m 865 ls' [])) : W p l e R s m args below meth c H locs cells slots Q (F0 m 156 ls []) := by
  have hx := S.1
  have hb := S.2.1
  have hTB := S.2.2.2.2
  refine lv_aload_n hx hb dL_law_156 rfl (lv_at hl 1 rfl) ?_
  refine lv_aload_n hx hb dL_law_157 rfl (lv_at hl 3 rfl) ?_
  obtain ⟨k, v, σ', v', τ', e1, e2, I', R', t0, hv, hk5⟩ := tp_chunk_sim hI hR
  refine tp_kSW (wr := tp_wM hm am cI cZ τ) (xs := [.ref h, .ref o]) (rest := []) (P := fun vv w' => ∃ f' : Nat → Int64, vv = some (.int (tp_nI (tp_mp1 k))) ∧ (k = 0 → f' 0 = v.toInt64) ∧ w' = (o, .inl (cJ, 1, .inr (.inl f'))) :: tp_wC h a cI cZ σ') S hK hX hP hD hS hA [6, 7, 8, 9, 10, 11, 12, 13, 14] [0, 1, 2, 3, 4, 5] rfl rfl rfl (by decide) (by decide) (by decide) (cL_chunk l hl0 D h a cI cZ cJ o _ σ f  (k, v, σ') e1) (fun a st oc t z => by obtain ⟨f', z1, z2, z3, tp_z4⟩ := z; exact ⟨_, _, z1, ⟨f', rfl, z2, rfl⟩, z3, tp_z4⟩) (fun vv w' z => by obtain ⟨f', -, -, rfl⟩ := z; rfl) (vx_cwSW 2 hTB tp_gS_chunk rfl rfl rfl ⟨by decide, by decide, by decide +kernel⟩ ⟨Nat.le_trans (Nat.le_of_ble_eq_true rfl) rF, Nat.le_trans (Nat.le_of_ble_eq_true rfl) rL⟩) rfl hl.1 rfl (Nat.le_of_ble_eq_true rfl) dL_law_158 ⟨hc, hs⟩ (fun vv w' H locs z hP hD hS => ?_)
  obtain ⟨f', rfl, hv0, rfl⟩ := z
  have hP : va_P D tp_CL (tp_wL h a hm am o cI cZ cJ σ' τ f') H := hP
  have hD : va_D A0 (tp_wL h a hm am o cI cZ cJ σ' τ f') := hD
  refine W.eq (g2 := F0 m 161 ls [.int (tp_nI (tp_mp1 k))]) rfl ?_
  refine lv_istore hx hb dL_law_161 hl (by decide) rfl (fun ls hl => ?_)
  have hl : lv_has ls 7 [(5, .int (tp_nI (tp_mp1 k))), (0, .ref b), (1, .ref h), (2, .ref hm), (3, .ref o), (4, .int i)] := hl
  refine lv_aload_n hx hb dL_law_163 rfl (lv_at hl 3 rfl) ?_
  refine tp_kVw (v := (some (.int v'))) (w' := tp_wM hm am cI cZ τ') (wr := (o, .inl (cJ, 1, .inr (.inl f'))) :: tp_wC h a cI cZ σ') (xs := []) (rest := []) S (hK.sub (tys' := [(cI, .int), (cZ, .boolean)]) [0, 1] rfl) hP hD hS hA [0, 1, 2, 3, 4, 5] [6, 7, 8, 9, 10, 11, 12, 13, 14] rfl rfl rfl (by decide) (by decide) (by decide) rfl rfl (cM_chunk l D hm am cI cZ _ τ  (v', τ') e2) rfl (cwV 0 hTB tp_gL_M_chunk rfl rfl rfl ⟨rfl, by decide, by decide, by decide +kernel⟩ ⟨Nat.le_trans (Nat.le_of_ble_eq_true rfl) rF, Nat.le_trans (Nat.le_of_ble_eq_true rfl) rL⟩) rfl hl.1 rfl (Nat.le_of_ble_eq_true rfl) dL_law_164 ⟨hc, hs⟩ (fun H locs hP hD hS => ?_)
  have hP : va_P D tp_CL (tp_wL h a hm am o cI cZ cJ σ' τ' f') H := hP.sub [9, 10, 11, 12, 13, 14, 0, 1, 2, 3, 4, 5, 6, 7, 8] rfl
  have hD : va_D A0 (tp_wL h a hm am o cI cZ cJ σ' τ' f') := hD.sub [9, 10, 11, 12, 13, 14, 0, 1, 2, 3, 4, 5, 6, 7, 8] (by decide) rfl
  refine W.eq (g2 := F0 m 167 ls [.int v']) rfl ?_
  refine lv_istore hx hb dL_law_167 hl (by decide) rfl (fun ls hl => ?_)
  have hl : lv_has ls 7 [(6, .int v'), (5, .int (tp_nI (tp_mp1 k))), (0, .ref b), (1, .ref h), (2, .ref hm), (3, .ref o), (4, .int i)] := hl
  refine lv_aload_n hx hb dL_law_169 rfl (lv_at hl 4 rfl) ?_
  refine tp_kP (w := tp_wM hm am cI cZ τ') (r := τ' 0 0) (rest := []) S (hK.sub (tys' := [(cI, .int), (cZ, .boolean)]) [0, 1] rfl) (hP.sub [0, 1, 2, 3, 4, 5] rfl) (hD.sub (ws' := tp_wM hm am cI cZ τ') [0, 1, 2, 3, 4, 5] (by decide) rfl) rfl rfl (cM_thrown l D hm am cI cZ _ τ' (τ' 0 0) rfl) (cwV 0 hTB tp_gL_M_thrown rfl rfl rfl ⟨rfl, by decide, by decide, by decide +kernel⟩ ⟨Nat.le_trans (Nat.le_of_ble_eq_true rfl) rF, Nat.le_trans (Nat.le_of_ble_eq_true rfl) rL⟩) rfl hl.1 rfl (Nat.le_of_ble_eq_true rfl) dL_law_170 ⟨hc, hs⟩ ?_
  refine lv_iload hx hb dL_law_173 (lv_at hl 1 rfl) ?_
  refine lv_icmp_eq (tgt := 180) hx hb dL_law_175 (by decide) (fun _ => ?_) (fun z => absurd t0 z)
  refine lv_iload hx hb dL_law_180 (lv_at hl 1 rfl) ?_
  refine lv_if_ne (tgt := 197) hx hb dL_law_182 (by decide) (fun _ => ?_) (fun z => ?_)
  · refine lv_goto (tgt := 865) hx hb dL_law_197 (by decide) ?_
    exact kk (σ') (τ') (f') H locs ls I' R' hP hD hS (lv_sub hl [2, 3, 4, 5, 6] rfl)
  · have k0 : k = 0 := tp_mp1_z hk5 z
    refine lv_aload_n hx hb dL_law_185 rfl (lv_at hl 5 rfl) ?_
    refine lv_iconst (v := 0) hx hb dL_law_186 (by decide) ?_
    refine va_lald hx hb hK hP 6 2 rfl rfl tp_vin0 dL_law_187 ?_
    refine lv_iload hx hb dL_law_188 (lv_at hl 0 rfl) ?_
    refine lv_i2l (v := v'.toInt64) hx hb dL_law_190 rfl ?_
    refine W.lcmp hx hb dL_law_191 ?_
    refine lv_if_eq (tgt := 197) hx hb dL_law_192 (by decide) (fun _ => ?_) (fun z => absurd (tp_lcmp_z ((hv0 k0).trans (congrArg Int32.toInt64 (hv k0)))) z)
    refine lv_goto (tgt := 865) hx hb dL_law_197 (by decide) ?_
    exact kk (σ') (τ') (f') H locs ls I' R' hP hD hS (lv_sub hl [2, 3, 4, 5, 6] rfl)
set_option maxHeartbeats 4000000 in
set_option maxRecDepth 100000 in
theorem tp_lc_2 {p : Program} {l : Launch} {e : Env} {R : Room} {s : State} {m : MethodId} {args : Array Value} {below : List Frame} {meth : Method} {c : Code} {H : Heap} {locs : List Loc} {cells slots : Nat} {Q : State → Prop} {ls : Array Slot} {D : va_G} {A0 : Nat → Prop} {h hm o b L : Nat} {a am : Nat → Nat} {cI cZ cJ : ClassId} {σ τ : tp_St} {f : Nat → Int64} {xs : Nat → Int32} {i : Int32} (hl0 : l.stackTraces = false) (rF : 10 ≤ R.frames) (rL : 356 ≤ R.locals) (S : CallFix p m c tp_bL_law 7 s args tp_TB tp_RL) (hK : va_K D tp_CL [(cI, .int), (cZ, .boolean), (cJ, .long)] s) (hX : tp_xZ A0 s) (hA : ∀ q : Nat, s.heap.size ≤ q → A0 q) (hXs : va_X b L xs s s.heap) (hbl : b < s.heap.size) (hbA : ¬ A0 b) (hc : cells + 1 ≤ R.cells) (hs : slots + 6 ≤ R.slots)
    (hI : tp_Inv σ) (hR : tp_Rel tp_noX σ τ) (hP : va_P D tp_CL (tp_wL h a hm am o cI cZ cJ σ τ f) H) (hD : va_D A0 (tp_wL h a hm am o cI cZ cJ σ τ f)) (hS : va_S A0 s.heap H locs) (i1 : vp_in (i + 1) L) (i2 : vp_in (i + 2) L) (i3 : vp_in (i + 3) L) (hl : lv_has ls 7 [(0, .ref b), (1, .ref h), (2, .ref hm), (3, .ref o), (4, .int i)])
    (kk : ∀ (σ' τ' : tp_St) (f' : Nat → Int64) (H' : Heap) (locs' : List Loc) (ls' : Array Slot), tp_Inv σ' → tp_Rel tp_noX σ' τ' → va_P D tp_CL (tp_wL h a hm am o cI cZ cJ σ' τ' f') H' → va_D A0 (tp_wL h a hm am o cI cZ cJ σ' τ' f') → va_S A0 s.heap H' locs' → lv_has ls' 7 [(0, .ref b), (1, .ref h), (2, .ref hm), (3, .ref o), (4, .int i)] → W p l e R s m args below meth c H' locs' (cells + 1) (slots + 6) Q (F0 m 865 ls' [])) : W p l e R s m args below meth c H locs cells slots Q (F0 m 200 ls []) := by
  have hx := S.1
  have hb := S.2.1
  have hTB := S.2.2.2.2
  refine lv_aload_n hx hb dL_law_200 rfl (lv_at hl 1 rfl) ?_
  refine lv_aload_n hx hb dL_law_201 rfl (lv_at hl 0 rfl) ?_
  refine lv_iload hx hb dL_law_202 (lv_at hl 4 rfl) ?_
  refine lv_iconst (v := 1) hx hb dL_law_204 (by decide) ?_
  refine lv_iadd hx hb dL_law_205 ?_
  refine va_sld hx hb hXs hbl hbA hS i1 dL_law_206 ?_
  refine lv_aload_n hx hb dL_law_207 rfl (lv_at hl 3 rfl) ?_
  obtain ⟨k, v, σ', v', τ', e1, e2, I', R', t0, hv, hk5⟩ := tp_chunks_sim hI hR (xs (i + 1).toNatClampNeg)
  refine tp_kSW (wr := tp_wM hm am cI cZ τ) (xs := [.ref h, .int (xs (i + 1).toNatClampNeg), .ref o]) (rest := []) (P := fun vv w' => ∃ f' : Nat → Int64, vv = some (.int (tp_nI (tp_mp1 k))) ∧ (k = 0 → f' 0 = v.toInt64) ∧ w' = (o, .inl (cJ, 1, .inr (.inl f'))) :: tp_wC h a cI cZ σ') S hK hX hP hD hS hA [6, 7, 8, 9, 10, 11, 12, 13, 14] [0, 1, 2, 3, 4, 5] rfl rfl rfl (by decide) (by decide) (by decide) (cL_chunks l hl0 D h a cI cZ cJ o _ σ f (xs (i + 1).toNatClampNeg) (k, v, σ') e1) (fun a st oc t z => by obtain ⟨f', z1, z2, z3, tp_z4⟩ := z; exact ⟨_, _, z1, ⟨f', rfl, z2, rfl⟩, z3, tp_z4⟩) (fun vv w' z => by obtain ⟨f', -, -, rfl⟩ := z; rfl) (vx_cwSW 3 hTB tp_gS_chunks rfl rfl rfl ⟨by decide, by decide, by decide +kernel⟩ ⟨Nat.le_trans (Nat.le_of_ble_eq_true rfl) rF, Nat.le_trans (Nat.le_of_ble_eq_true rfl) rL⟩) rfl hl.1 rfl (Nat.le_of_ble_eq_true rfl) dL_law_208 ⟨hc, hs⟩ (fun vv w' H locs z hP hD hS => ?_)
  obtain ⟨f', rfl, hv0, rfl⟩ := z
  have hP : va_P D tp_CL (tp_wL h a hm am o cI cZ cJ σ' τ f') H := hP
  have hD : va_D A0 (tp_wL h a hm am o cI cZ cJ σ' τ f') := hD
  refine W.eq (g2 := F0 m 211 ls [.int (tp_nI (tp_mp1 k))]) rfl ?_
  refine lv_istore hx hb dL_law_211 hl (by decide) rfl (fun ls hl => ?_)
  have hl : lv_has ls 7 [(5, .int (tp_nI (tp_mp1 k))), (0, .ref b), (1, .ref h), (2, .ref hm), (3, .ref o), (4, .int i)] := hl
  refine lv_aload_n hx hb dL_law_213 rfl (lv_at hl 3 rfl) ?_
  refine lv_aload_n hx hb dL_law_214 rfl (lv_at hl 1 rfl) ?_
  refine lv_iload hx hb dL_law_215 (lv_at hl 5 rfl) ?_
  refine lv_iconst (v := 1) hx hb dL_law_217 (by decide) ?_
  refine lv_iadd hx hb dL_law_218 ?_
  refine va_sld hx hb hXs hbl hbA hS i1 dL_law_219 ?_
  refine tp_kVw (v := (some (.int v'))) (w' := tp_wM hm am cI cZ τ') (wr := (o, .inl (cJ, 1, .inr (.inl f'))) :: tp_wC h a cI cZ σ') (xs := [.int (xs (i + 1).toNatClampNeg)]) (rest := []) S (hK.sub (tys' := [(cI, .int), (cZ, .boolean)]) [0, 1] rfl) hP hD hS hA [0, 1, 2, 3, 4, 5] [6, 7, 8, 9, 10, 11, 12, 13, 14] rfl rfl rfl (by decide) (by decide) (by decide) rfl rfl (cM_chunks l D hm am cI cZ _ τ (xs (i + 1).toNatClampNeg) (v', τ') e2) rfl (cwV 1 hTB tp_gL_M_chunks rfl rfl rfl ⟨rfl, by decide, by decide, by decide +kernel⟩ ⟨Nat.le_trans (Nat.le_of_ble_eq_true rfl) rF, Nat.le_trans (Nat.le_of_ble_eq_true rfl) rL⟩) rfl hl.1 rfl (Nat.le_of_ble_eq_true rfl) dL_law_220 ⟨hc, hs⟩ (fun H locs hP hD hS => ?_)
  have hP : va_P D tp_CL (tp_wL h a hm am o cI cZ cJ σ' τ' f') H := hP.sub [9, 10, 11, 12, 13, 14, 0, 1, 2, 3, 4, 5, 6, 7, 8] rfl
  have hD : va_D A0 (tp_wL h a hm am o cI cZ cJ σ' τ' f') := hD.sub [9, 10, 11, 12, 13, 14, 0, 1, 2, 3, 4, 5, 6, 7, 8] (by decide) rfl
  refine W.eq (g2 := F0 m 223 ls [.int v']) rfl ?_
  refine lv_istore hx hb dL_law_223 hl (by decide) rfl (fun ls hl => ?_)
  have hl : lv_has ls 7 [(6, .int v'), (5, .int (tp_nI (tp_mp1 k))), (0, .ref b), (1, .ref h), (2, .ref hm), (3, .ref o), (4, .int i)] := hl
  refine lv_aload_n hx hb dL_law_225 rfl (lv_at hl 4 rfl) ?_
  refine tp_kP (w := tp_wM hm am cI cZ τ') (r := τ' 0 0) (rest := []) S (hK.sub (tys' := [(cI, .int), (cZ, .boolean)]) [0, 1] rfl) (hP.sub [0, 1, 2, 3, 4, 5] rfl) (hD.sub (ws' := tp_wM hm am cI cZ τ') [0, 1, 2, 3, 4, 5] (by decide) rfl) rfl rfl (cM_thrown l D hm am cI cZ _ τ' (τ' 0 0) rfl) (cwV 0 hTB tp_gL_M_thrown rfl rfl rfl ⟨rfl, by decide, by decide, by decide +kernel⟩ ⟨Nat.le_trans (Nat.le_of_ble_eq_true rfl) rF, Nat.le_trans (Nat.le_of_ble_eq_true rfl) rL⟩) rfl hl.1 rfl (Nat.le_of_ble_eq_true rfl) dL_law_226 ⟨hc, hs⟩ ?_
  refine lv_iload hx hb dL_law_229 (lv_at hl 1 rfl) ?_
  refine lv_icmp_eq (tgt := 236) hx hb dL_law_231 (by decide) (fun _ => ?_) (fun z => absurd t0 z)
  refine lv_iload hx hb dL_law_236 (lv_at hl 1 rfl) ?_
  refine lv_if_ne (tgt := 253) hx hb dL_law_238 (by decide) (fun _ => ?_) (fun z => ?_)
  · refine lv_goto (tgt := 865) hx hb dL_law_253 (by decide) ?_
    exact kk (σ') (τ') (f') H locs ls I' R' hP hD hS (lv_sub hl [2, 3, 4, 5, 6] rfl)
  · have k0 : k = 0 := tp_mp1_z hk5 z
    refine lv_aload_n hx hb dL_law_241 rfl (lv_at hl 5 rfl) ?_
    refine lv_iconst (v := 0) hx hb dL_law_242 (by decide) ?_
    refine va_lald hx hb hK hP 6 2 rfl rfl tp_vin0 dL_law_243 ?_
    refine lv_iload hx hb dL_law_244 (lv_at hl 0 rfl) ?_
    refine lv_i2l (v := v'.toInt64) hx hb dL_law_246 rfl ?_
    refine W.lcmp hx hb dL_law_247 ?_
    refine lv_if_eq (tgt := 253) hx hb dL_law_248 (by decide) (fun _ => ?_) (fun z => absurd (tp_lcmp_z ((hv0 k0).trans (congrArg Int32.toInt64 (hv k0)))) z)
    refine lv_goto (tgt := 865) hx hb dL_law_253 (by decide) ?_
    exact kk (σ') (τ') (f') H locs ls I' R' hP hD hS (lv_sub hl [2, 3, 4, 5, 6] rfl)
set_option maxHeartbeats 4000000 in
set_option maxRecDepth 100000 in
theorem tp_lc_3 {p : Program} {l : Launch} {e : Env} {R : Room} {s : State} {m : MethodId} {args : Array Value} {below : List Frame} {meth : Method} {c : Code} {H : Heap} {locs : List Loc} {cells slots : Nat} {Q : State → Prop} {ls : Array Slot} {D : va_G} {A0 : Nat → Prop} {h hm o b L : Nat} {a am : Nat → Nat} {cI cZ cJ : ClassId} {σ τ : tp_St} {f : Nat → Int64} {xs : Nat → Int32} {i : Int32} (hl0 : l.stackTraces = false) (rF : 10 ≤ R.frames) (rL : 356 ≤ R.locals) (S : CallFix p m c tp_bL_law 7 s args tp_TB tp_RL) (hK : va_K D tp_CL [(cI, .int), (cZ, .boolean), (cJ, .long)] s) (hX : tp_xZ A0 s) (hA : ∀ q : Nat, s.heap.size ≤ q → A0 q) (hXs : va_X b L xs s s.heap) (hbl : b < s.heap.size) (hbA : ¬ A0 b) (hc : cells + 1 ≤ R.cells) (hs : slots + 6 ≤ R.slots)
    (hI : tp_Inv σ) (hR : tp_Rel tp_noX σ τ) (hP : va_P D tp_CL (tp_wL h a hm am o cI cZ cJ σ τ f) H) (hD : va_D A0 (tp_wL h a hm am o cI cZ cJ σ τ f)) (hS : va_S A0 s.heap H locs) (i1 : vp_in (i + 1) L) (i2 : vp_in (i + 2) L) (i3 : vp_in (i + 3) L) (hl : lv_has ls 7 [(0, .ref b), (1, .ref h), (2, .ref hm), (3, .ref o), (4, .int i)])
    (kk : ∀ (σ' τ' : tp_St) (f' : Nat → Int64) (H' : Heap) (locs' : List Loc) (ls' : Array Slot), tp_Inv σ' → tp_Rel tp_noX σ' τ' → va_P D tp_CL (tp_wL h a hm am o cI cZ cJ σ' τ' f') H' → va_D A0 (tp_wL h a hm am o cI cZ cJ σ' τ' f') → va_S A0 s.heap H' locs' → lv_has ls' 7 [(0, .ref b), (1, .ref h), (2, .ref hm), (3, .ref o), (4, .int i)] → W p l e R s m args below meth c H' locs' (cells + 1) (slots + 6) Q (F0 m 865 ls' [])) : W p l e R s m args below meth c H locs cells slots Q (F0 m 256 ls []) := by
  have hx := S.1
  have hb := S.2.1
  have hTB := S.2.2.2.2
  refine lv_aload_n hx hb dL_law_256 rfl (lv_at hl 1 rfl) ?_
  refine lv_aload_n hx hb dL_law_257 rfl (lv_at hl 0 rfl) ?_
  refine lv_iload hx hb dL_law_258 (lv_at hl 4 rfl) ?_
  refine lv_iconst (v := 1) hx hb dL_law_260 (by decide) ?_
  refine lv_iadd hx hb dL_law_261 ?_
  refine va_sld hx hb hXs hbl hbA hS i1 dL_law_262 ?_
  refine lv_aload_n hx hb dL_law_263 rfl (lv_at hl 3 rfl) ?_
  obtain ⟨k, v, σ', v', τ', e1, e2, I', R', t0, hv, hk5⟩ := tp_free_sim hI hR (xs (i + 1).toNatClampNeg)
  refine tp_kSW (wr := tp_wM hm am cI cZ τ) (xs := [.ref h, .int (xs (i + 1).toNatClampNeg), .ref o]) (rest := []) (P := fun vv w' => ∃ f' : Nat → Int64, vv = some (.int (tp_nI (tp_mp1 k))) ∧ (k = 0 → f' 0 = v.toInt64) ∧ w' = (o, .inl (cJ, 1, .inr (.inl f'))) :: tp_wC h a cI cZ σ') S hK hX hP hD hS hA [6, 7, 8, 9, 10, 11, 12, 13, 14] [0, 1, 2, 3, 4, 5] rfl rfl rfl (by decide) (by decide) (by decide) (cL_free l hl0 D h a cI cZ cJ o _ σ f (xs (i + 1).toNatClampNeg) (k, v, σ') e1) (fun a st oc t z => by obtain ⟨f', z1, z2, z3, tp_z4⟩ := z; exact ⟨_, _, z1, ⟨f', rfl, z2, rfl⟩, z3, tp_z4⟩) (fun vv w' z => by obtain ⟨f', -, -, rfl⟩ := z; rfl) (vx_cwSW 3 hTB tp_gS_free rfl rfl rfl ⟨by decide, by decide, by decide +kernel⟩ ⟨Nat.le_trans (Nat.le_of_ble_eq_true rfl) rF, Nat.le_trans (Nat.le_of_ble_eq_true rfl) rL⟩) rfl hl.1 rfl (Nat.le_of_ble_eq_true rfl) dL_law_264 ⟨hc, hs⟩ (fun vv w' H locs z hP hD hS => ?_)
  obtain ⟨f', rfl, hv0, rfl⟩ := z
  have hP : va_P D tp_CL (tp_wL h a hm am o cI cZ cJ σ' τ f') H := hP
  have hD : va_D A0 (tp_wL h a hm am o cI cZ cJ σ' τ f') := hD
  refine W.eq (g2 := F0 m 267 ls [.int (tp_nI (tp_mp1 k))]) rfl ?_
  refine lv_istore hx hb dL_law_267 hl (by decide) rfl (fun ls hl => ?_)
  have hl : lv_has ls 7 [(5, .int (tp_nI (tp_mp1 k))), (0, .ref b), (1, .ref h), (2, .ref hm), (3, .ref o), (4, .int i)] := hl
  refine lv_aload_n hx hb dL_law_269 rfl (lv_at hl 3 rfl) ?_
  refine lv_aload_n hx hb dL_law_270 rfl (lv_at hl 1 rfl) ?_
  refine lv_iload hx hb dL_law_271 (lv_at hl 5 rfl) ?_
  refine lv_iconst (v := 1) hx hb dL_law_273 (by decide) ?_
  refine lv_iadd hx hb dL_law_274 ?_
  refine va_sld hx hb hXs hbl hbA hS i1 dL_law_275 ?_
  refine tp_kVw (v := (some (.int v'))) (w' := tp_wM hm am cI cZ τ') (wr := (o, .inl (cJ, 1, .inr (.inl f'))) :: tp_wC h a cI cZ σ') (xs := [.int (xs (i + 1).toNatClampNeg)]) (rest := []) S (hK.sub (tys' := [(cI, .int), (cZ, .boolean)]) [0, 1] rfl) hP hD hS hA [0, 1, 2, 3, 4, 5] [6, 7, 8, 9, 10, 11, 12, 13, 14] rfl rfl rfl (by decide) (by decide) (by decide) rfl rfl (cM_free l D hm am cI cZ _ τ (xs (i + 1).toNatClampNeg) (v', τ') e2) rfl (cwV 1 hTB tp_gL_M_free rfl rfl rfl ⟨rfl, by decide, by decide, by decide +kernel⟩ ⟨Nat.le_trans (Nat.le_of_ble_eq_true rfl) rF, Nat.le_trans (Nat.le_of_ble_eq_true rfl) rL⟩) rfl hl.1 rfl (Nat.le_of_ble_eq_true rfl) dL_law_276 ⟨hc, hs⟩ (fun H locs hP hD hS => ?_)
  have hP : va_P D tp_CL (tp_wL h a hm am o cI cZ cJ σ' τ' f') H := hP.sub [9, 10, 11, 12, 13, 14, 0, 1, 2, 3, 4, 5, 6, 7, 8] rfl
  have hD : va_D A0 (tp_wL h a hm am o cI cZ cJ σ' τ' f') := hD.sub [9, 10, 11, 12, 13, 14, 0, 1, 2, 3, 4, 5, 6, 7, 8] (by decide) rfl
  refine W.eq (g2 := F0 m 279 ls [.int v']) rfl ?_
  refine lv_istore hx hb dL_law_279 hl (by decide) rfl (fun ls hl => ?_)
  have hl : lv_has ls 7 [(6, .int v'), (5, .int (tp_nI (tp_mp1 k))), (0, .ref b), (1, .ref h), (2, .ref hm), (3, .ref o), (4, .int i)] := hl
  refine lv_aload_n hx hb dL_law_281 rfl (lv_at hl 4 rfl) ?_
  refine tp_kP (w := tp_wM hm am cI cZ τ') (r := τ' 0 0) (rest := []) S (hK.sub (tys' := [(cI, .int), (cZ, .boolean)]) [0, 1] rfl) (hP.sub [0, 1, 2, 3, 4, 5] rfl) (hD.sub (ws' := tp_wM hm am cI cZ τ') [0, 1, 2, 3, 4, 5] (by decide) rfl) rfl rfl (cM_thrown l D hm am cI cZ _ τ' (τ' 0 0) rfl) (cwV 0 hTB tp_gL_M_thrown rfl rfl rfl ⟨rfl, by decide, by decide, by decide +kernel⟩ ⟨Nat.le_trans (Nat.le_of_ble_eq_true rfl) rF, Nat.le_trans (Nat.le_of_ble_eq_true rfl) rL⟩) rfl hl.1 rfl (Nat.le_of_ble_eq_true rfl) dL_law_282 ⟨hc, hs⟩ ?_
  refine lv_iload hx hb dL_law_285 (lv_at hl 1 rfl) ?_
  refine lv_icmp_eq (tgt := 292) hx hb dL_law_287 (by decide) (fun _ => ?_) (fun z => absurd t0 z)
  refine lv_iload hx hb dL_law_292 (lv_at hl 1 rfl) ?_
  refine lv_if_ne (tgt := 309) hx hb dL_law_294 (by decide) (fun _ => ?_) (fun z => ?_)
  · refine lv_goto (tgt := 865) hx hb dL_law_309 (by decide) ?_
    exact kk (σ') (τ') (f') H locs ls I' R' hP hD hS (lv_sub hl [2, 3, 4, 5, 6] rfl)
  · have k0 : k = 0 := tp_mp1_z hk5 z
    refine lv_aload_n hx hb dL_law_297 rfl (lv_at hl 5 rfl) ?_
    refine lv_iconst (v := 0) hx hb dL_law_298 (by decide) ?_
    refine va_lald hx hb hK hP 6 2 rfl rfl tp_vin0 dL_law_299 ?_
    refine lv_iload hx hb dL_law_300 (lv_at hl 0 rfl) ?_
    refine lv_i2l (v := v'.toInt64) hx hb dL_law_302 rfl ?_
    refine W.lcmp hx hb dL_law_303 ?_
    refine lv_if_eq (tgt := 309) hx hb dL_law_304 (by decide) (fun _ => ?_) (fun z => absurd (tp_lcmp_z ((hv0 k0).trans (congrArg Int32.toInt64 (hv k0)))) z)
    refine lv_goto (tgt := 865) hx hb dL_law_309 (by decide) ?_
    exact kk (σ') (τ') (f') H locs ls I' R' hP hD hS (lv_sub hl [2, 3, 4, 5, 6] rfl)
set_option maxHeartbeats 4000000 in
set_option maxRecDepth 100000 in
theorem tp_lc_4 {p : Program} {l : Launch} {e : Env} {R : Room} {s : State} {m : MethodId} {args : Array Value} {below : List Frame} {meth : Method} {c : Code} {H : Heap} {locs : List Loc} {cells slots : Nat} {Q : State → Prop} {ls : Array Slot} {D : va_G} {A0 : Nat → Prop} {h hm o b L : Nat} {a am : Nat → Nat} {cI cZ cJ : ClassId} {σ τ : tp_St} {f : Nat → Int64} {xs : Nat → Int32} {i : Int32} (hl0 : l.stackTraces = false) (rF : 10 ≤ R.frames) (rL : 356 ≤ R.locals) (S : CallFix p m c tp_bL_law 7 s args tp_TB tp_RL) (hK : va_K D tp_CL [(cI, .int), (cZ, .boolean), (cJ, .long)] s) (hX : tp_xZ A0 s) (hA : ∀ q : Nat, s.heap.size ≤ q → A0 q) (hXs : va_X b L xs s s.heap) (hbl : b < s.heap.size) (hbA : ¬ A0 b) (hc : cells + 1 ≤ R.cells) (hs : slots + 6 ≤ R.slots)
    (hI : tp_Inv σ) (hR : tp_Rel tp_noX σ τ) (hP : va_P D tp_CL (tp_wL h a hm am o cI cZ cJ σ τ f) H) (hD : va_D A0 (tp_wL h a hm am o cI cZ cJ σ τ f)) (hS : va_S A0 s.heap H locs) (i1 : vp_in (i + 1) L) (i2 : vp_in (i + 2) L) (i3 : vp_in (i + 3) L) (hl : lv_has ls 7 [(0, .ref b), (1, .ref h), (2, .ref hm), (3, .ref o), (4, .int i)])
    (kk : ∀ (σ' τ' : tp_St) (f' : Nat → Int64) (H' : Heap) (locs' : List Loc) (ls' : Array Slot), tp_Inv σ' → tp_Rel tp_noX σ' τ' → va_P D tp_CL (tp_wL h a hm am o cI cZ cJ σ' τ' f') H' → va_D A0 (tp_wL h a hm am o cI cZ cJ σ' τ' f') → va_S A0 s.heap H' locs' → lv_has ls' 7 [(0, .ref b), (1, .ref h), (2, .ref hm), (3, .ref o), (4, .int i)] → W p l e R s m args below meth c H' locs' (cells + 1) (slots + 6) Q (F0 m 865 ls' [])) : W p l e R s m args below meth c H locs cells slots Q (F0 m 312 ls []) := by
  have hx := S.1
  have hb := S.2.1
  have hTB := S.2.2.2.2
  refine lv_aload_n hx hb dL_law_312 rfl (lv_at hl 1 rfl) ?_
  refine lv_aload_n hx hb dL_law_313 rfl (lv_at hl 0 rfl) ?_
  refine lv_iload hx hb dL_law_314 (lv_at hl 4 rfl) ?_
  refine lv_iconst (v := 1) hx hb dL_law_316 (by decide) ?_
  refine lv_iadd hx hb dL_law_317 ?_
  refine va_sld hx hb hXs hbl hbA hS i1 dL_law_318 ?_
  refine lv_aload_n hx hb dL_law_319 rfl (lv_at hl 0 rfl) ?_
  refine lv_iload hx hb dL_law_320 (lv_at hl 4 rfl) ?_
  refine lv_iconst (v := 2) hx hb dL_law_322 (by decide) ?_
  refine lv_iadd hx hb dL_law_323 ?_
  refine va_sld hx hb hXs hbl hbA hS i2 dL_law_324 ?_
  refine lv_aload_n hx hb dL_law_325 rfl (lv_at hl 0 rfl) ?_
  refine lv_iload hx hb dL_law_326 (lv_at hl 4 rfl) ?_
  refine lv_iconst (v := 3) hx hb dL_law_328 (by decide) ?_
  refine lv_iadd hx hb dL_law_329 ?_
  refine va_sld hx hb hXs hbl hbA hS i3 dL_law_330 ?_
  obtain ⟨k, v, σ', τ', e1, e2, I', R', t0, hk5⟩ := tp_write_sim hI hR (xs (i + 1).toNatClampNeg) (xs (i + 2).toNatClampNeg) (xs (i + 3).toNatClampNeg)
  refine tp_kSW (wr := tp_wM hm am cI cZ τ ++ [(o, .inl (cJ, 1, .inr (.inl f)))]) (xs := [.ref h, .int (xs (i + 1).toNatClampNeg), .int (xs (i + 2).toNatClampNeg), .int (xs (i + 3).toNatClampNeg)]) (rest := []) (P := fun vv w' => vv = some (.int (tp_nI (tp_mpI k))) ∧ w' = tp_wC h a cI cZ σ') S (hK.sub (tys' := [(cI, .int), (cZ, .boolean)]) [0, 1] rfl) hX hP hD hS hA [7, 8, 9, 10, 11, 12, 13, 14] [0, 1, 2, 3, 4, 5, 6] rfl rfl rfl (by decide) (by decide) (by decide) (cL_write l hl0 D h a cI cZ _ σ (xs (i + 1).toNatClampNeg) (xs (i + 2).toNatClampNeg) (xs (i + 3).toNatClampNeg) (k, v, σ') e1) (fun a st oc t z => ⟨_, _, z.1, ⟨rfl, rfl⟩, z.2.1, z.2.2⟩) (fun vv w' z => by obtain ⟨-, rfl⟩ := z; rfl) (vx_cwSW 4 hTB tp_gS_write rfl rfl rfl ⟨by decide, by decide, by decide +kernel⟩ ⟨Nat.le_trans (Nat.le_of_ble_eq_true rfl) rF, Nat.le_trans (Nat.le_of_ble_eq_true rfl) rL⟩) rfl hl.1 rfl (Nat.le_of_ble_eq_true rfl) dL_law_331 ⟨hc, hs⟩ (fun vv w' H locs z hP hD hS => ?_)
  obtain ⟨rfl, rfl⟩ := z
  have hP : va_P D tp_CL (tp_wL h a hm am o cI cZ cJ σ' τ f) H := hP
  have hD : va_D A0 (tp_wL h a hm am o cI cZ cJ σ' τ f) := hD
  refine W.eq (g2 := F0 m 334 ls [.int (tp_nI (tp_mpI k))]) rfl ?_
  refine lv_istore hx hb dL_law_334 hl (by decide) rfl (fun ls hl => ?_)
  have hl : lv_has ls 7 [(5, .int (tp_nI (tp_mpI k))), (0, .ref b), (1, .ref h), (2, .ref hm), (3, .ref o), (4, .int i)] := hl
  refine lv_aload_n hx hb dL_law_336 rfl (lv_at hl 3 rfl) ?_
  refine lv_aload_n hx hb dL_law_337 rfl (lv_at hl 1 rfl) ?_
  refine lv_iload hx hb dL_law_338 (lv_at hl 5 rfl) ?_
  refine lv_iconst (v := 1) hx hb dL_law_340 (by decide) ?_
  refine lv_iadd hx hb dL_law_341 ?_
  refine va_sld hx hb hXs hbl hbA hS i1 dL_law_342 ?_
  refine lv_aload_n hx hb dL_law_343 rfl (lv_at hl 1 rfl) ?_
  refine lv_iload hx hb dL_law_344 (lv_at hl 5 rfl) ?_
  refine lv_iconst (v := 2) hx hb dL_law_346 (by decide) ?_
  refine lv_iadd hx hb dL_law_347 ?_
  refine va_sld hx hb hXs hbl hbA hS i2 dL_law_348 ?_
  refine lv_aload_n hx hb dL_law_349 rfl (lv_at hl 1 rfl) ?_
  refine lv_iload hx hb dL_law_350 (lv_at hl 5 rfl) ?_
  refine lv_iconst (v := 3) hx hb dL_law_352 (by decide) ?_
  refine lv_iadd hx hb dL_law_353 ?_
  refine va_sld hx hb hXs hbl hbA hS i3 dL_law_354 ?_
  refine tp_kVw (v := none) (w' := tp_wM hm am cI cZ τ') (wr := (o, .inl (cJ, 1, .inr (.inl f))) :: tp_wC h a cI cZ σ') (xs := [.int (xs (i + 1).toNatClampNeg), .int (xs (i + 2).toNatClampNeg), .int (xs (i + 3).toNatClampNeg)]) (rest := []) S (hK.sub (tys' := [(cI, .int), (cZ, .boolean)]) [0, 1] rfl) hP hD hS hA [0, 1, 2, 3, 4, 5] [6, 7, 8, 9, 10, 11, 12, 13, 14] rfl rfl rfl (by decide) (by decide) (by decide) rfl rfl (cM_write l D hm am cI cZ _ τ (xs (i + 1).toNatClampNeg) (xs (i + 2).toNatClampNeg) (xs (i + 3).toNatClampNeg) τ' e2) rfl (cwV 3 hTB tp_gL_M_write rfl rfl rfl ⟨rfl, by decide, by decide, by decide +kernel⟩ ⟨Nat.le_trans (Nat.le_of_ble_eq_true rfl) rF, Nat.le_trans (Nat.le_of_ble_eq_true rfl) rL⟩) rfl hl.1 rfl (Nat.le_of_ble_eq_true rfl) dL_law_355 ⟨hc, hs⟩ (fun H locs hP hD hS => ?_)
  have hP : va_P D tp_CL (tp_wL h a hm am o cI cZ cJ σ' τ' f) H := hP.sub [9, 10, 11, 12, 13, 14, 0, 1, 2, 3, 4, 5, 6, 7, 8] rfl
  have hD : va_D A0 (tp_wL h a hm am o cI cZ cJ σ' τ' f) := hD.sub [9, 10, 11, 12, 13, 14, 0, 1, 2, 3, 4, 5, 6, 7, 8] (by decide) rfl
  refine lv_aload_n hx hb dL_law_358 rfl (lv_at hl 3 rfl) ?_
  refine tp_kP (w := tp_wM hm am cI cZ τ') (r := τ' 0 0) (rest := []) S (hK.sub (tys' := [(cI, .int), (cZ, .boolean)]) [0, 1] rfl) (hP.sub [0, 1, 2, 3, 4, 5] rfl) (hD.sub (ws' := tp_wM hm am cI cZ τ') [0, 1, 2, 3, 4, 5] (by decide) rfl) rfl rfl (cM_thrown l D hm am cI cZ _ τ' (τ' 0 0) rfl) (cwV 0 hTB tp_gL_M_thrown rfl rfl rfl ⟨rfl, by decide, by decide, by decide +kernel⟩ ⟨Nat.le_trans (Nat.le_of_ble_eq_true rfl) rF, Nat.le_trans (Nat.le_of_ble_eq_true rfl) rL⟩) rfl hl.1 rfl (Nat.le_of_ble_eq_true rfl) dL_law_359 ⟨hc, hs⟩ ?_
  refine lv_iload hx hb dL_law_362 (lv_at hl 0 rfl) ?_
  refine lv_icmp_eq (tgt := 369) hx hb dL_law_364 (by decide) (fun _ => ?_) (fun z => absurd t0 z)
  refine lv_goto (tgt := 865) hx hb dL_law_369 (by decide) ?_
  exact kk (σ') (τ') f H locs ls I' R' hP hD hS (lv_sub hl [1, 2, 3, 4, 5] rfl)
set_option maxHeartbeats 4000000 in
set_option maxRecDepth 100000 in
theorem tp_lc_5 {p : Program} {l : Launch} {e : Env} {R : Room} {s : State} {m : MethodId} {args : Array Value} {below : List Frame} {meth : Method} {c : Code} {H : Heap} {locs : List Loc} {cells slots : Nat} {Q : State → Prop} {ls : Array Slot} {D : va_G} {A0 : Nat → Prop} {h hm o b L : Nat} {a am : Nat → Nat} {cI cZ cJ : ClassId} {σ τ : tp_St} {f : Nat → Int64} {xs : Nat → Int32} {i : Int32} (hl0 : l.stackTraces = false) (rF : 10 ≤ R.frames) (rL : 356 ≤ R.locals) (S : CallFix p m c tp_bL_law 7 s args tp_TB tp_RL) (hK : va_K D tp_CL [(cI, .int), (cZ, .boolean), (cJ, .long)] s) (hX : tp_xZ A0 s) (hA : ∀ q : Nat, s.heap.size ≤ q → A0 q) (hXs : va_X b L xs s s.heap) (hbl : b < s.heap.size) (hbA : ¬ A0 b) (hc : cells + 1 ≤ R.cells) (hs : slots + 6 ≤ R.slots)
    (hI : tp_Inv σ) (hR : tp_Rel tp_noX σ τ) (hP : va_P D tp_CL (tp_wL h a hm am o cI cZ cJ σ τ f) H) (hD : va_D A0 (tp_wL h a hm am o cI cZ cJ σ τ f)) (hS : va_S A0 s.heap H locs) (i1 : vp_in (i + 1) L) (i2 : vp_in (i + 2) L) (i3 : vp_in (i + 3) L) (hl : lv_has ls 7 [(0, .ref b), (1, .ref h), (2, .ref hm), (3, .ref o), (4, .int i)])
    (kk : ∀ (σ' τ' : tp_St) (f' : Nat → Int64) (H' : Heap) (locs' : List Loc) (ls' : Array Slot), tp_Inv σ' → tp_Rel tp_noX σ' τ' → va_P D tp_CL (tp_wL h a hm am o cI cZ cJ σ' τ' f') H' → va_D A0 (tp_wL h a hm am o cI cZ cJ σ' τ' f') → va_S A0 s.heap H' locs' → lv_has ls' 7 [(0, .ref b), (1, .ref h), (2, .ref hm), (3, .ref o), (4, .int i)] → W p l e R s m args below meth c H' locs' (cells + 1) (slots + 6) Q (F0 m 865 ls' [])) : W p l e R s m args below meth c H locs cells slots Q (F0 m 372 ls []) := by
  have hx := S.1
  have hb := S.2.1
  have hTB := S.2.2.2.2
  refine lv_aload_n hx hb dL_law_372 rfl (lv_at hl 1 rfl) ?_
  refine lv_aload_n hx hb dL_law_373 rfl (lv_at hl 0 rfl) ?_
  refine lv_iload hx hb dL_law_374 (lv_at hl 4 rfl) ?_
  refine lv_iconst (v := 1) hx hb dL_law_376 (by decide) ?_
  refine lv_iadd hx hb dL_law_377 ?_
  refine va_sld hx hb hXs hbl hbA hS i1 dL_law_378 ?_
  refine lv_aload_n hx hb dL_law_379 rfl (lv_at hl 0 rfl) ?_
  refine lv_iload hx hb dL_law_380 (lv_at hl 4 rfl) ?_
  refine lv_iconst (v := 2) hx hb dL_law_382 (by decide) ?_
  refine lv_iadd hx hb dL_law_383 ?_
  refine va_sld hx hb hXs hbl hbA hS i2 dL_law_384 ?_
  refine lv_aload_n hx hb dL_law_385 rfl (lv_at hl 3 rfl) ?_
  obtain ⟨k, v, σ', v', τ', e1, e2, I', R', t0, hv, hk5⟩ := tp_read_sim hI hR (xs (i + 1).toNatClampNeg) (xs (i + 2).toNatClampNeg)
  refine tp_kSW (wr := tp_wM hm am cI cZ τ) (xs := [.ref h, .int (xs (i + 1).toNatClampNeg), .int (xs (i + 2).toNatClampNeg), .ref o]) (rest := []) (P := fun vv w' => ∃ f' : Nat → Int64, vv = some (.int (tp_nI (tp_mpI k))) ∧ (k = 0 → f' 0 = v.toInt64) ∧ w' = (o, .inl (cJ, 1, .inr (.inl f'))) :: tp_wC h a cI cZ σ') S hK hX hP hD hS hA [6, 7, 8, 9, 10, 11, 12, 13, 14] [0, 1, 2, 3, 4, 5] rfl rfl rfl (by decide) (by decide) (by decide) (cL_read l hl0 D h a cI cZ cJ o _ σ f (xs (i + 1).toNatClampNeg) (xs (i + 2).toNatClampNeg) (k, v, σ') e1) (fun a st oc t z => by obtain ⟨f', z1, z2, z3, tp_z4⟩ := z; exact ⟨_, _, z1, ⟨f', rfl, z2, rfl⟩, z3, tp_z4⟩) (fun vv w' z => by obtain ⟨f', -, -, rfl⟩ := z; rfl) (vx_cwSW 4 hTB tp_gS_read rfl rfl rfl ⟨by decide, by decide, by decide +kernel⟩ ⟨Nat.le_trans (Nat.le_of_ble_eq_true rfl) rF, Nat.le_trans (Nat.le_of_ble_eq_true rfl) rL⟩) rfl hl.1 rfl (Nat.le_of_ble_eq_true rfl) dL_law_386 ⟨hc, hs⟩ (fun vv w' H locs z hP hD hS => ?_)
  obtain ⟨f', rfl, hv0, rfl⟩ := z
  have hP : va_P D tp_CL (tp_wL h a hm am o cI cZ cJ σ' τ f') H := hP
  have hD : va_D A0 (tp_wL h a hm am o cI cZ cJ σ' τ f') := hD
  refine W.eq (g2 := F0 m 389 ls [.int (tp_nI (tp_mpI k))]) rfl ?_
  refine lv_istore hx hb dL_law_389 hl (by decide) rfl (fun ls hl => ?_)
  have hl : lv_has ls 7 [(5, .int (tp_nI (tp_mpI k))), (0, .ref b), (1, .ref h), (2, .ref hm), (3, .ref o), (4, .int i)] := hl
  refine lv_aload_n hx hb dL_law_391 rfl (lv_at hl 3 rfl) ?_
  refine lv_aload_n hx hb dL_law_392 rfl (lv_at hl 1 rfl) ?_
  refine lv_iload hx hb dL_law_393 (lv_at hl 5 rfl) ?_
  refine lv_iconst (v := 1) hx hb dL_law_395 (by decide) ?_
  refine lv_iadd hx hb dL_law_396 ?_
  refine va_sld hx hb hXs hbl hbA hS i1 dL_law_397 ?_
  refine lv_aload_n hx hb dL_law_398 rfl (lv_at hl 1 rfl) ?_
  refine lv_iload hx hb dL_law_399 (lv_at hl 5 rfl) ?_
  refine lv_iconst (v := 2) hx hb dL_law_401 (by decide) ?_
  refine lv_iadd hx hb dL_law_402 ?_
  refine va_sld hx hb hXs hbl hbA hS i2 dL_law_403 ?_
  refine tp_kVw (v := (some (.int v'))) (w' := tp_wM hm am cI cZ τ') (wr := (o, .inl (cJ, 1, .inr (.inl f'))) :: tp_wC h a cI cZ σ') (xs := [.int (xs (i + 1).toNatClampNeg), .int (xs (i + 2).toNatClampNeg)]) (rest := []) S (hK.sub (tys' := [(cI, .int), (cZ, .boolean)]) [0, 1] rfl) hP hD hS hA [0, 1, 2, 3, 4, 5] [6, 7, 8, 9, 10, 11, 12, 13, 14] rfl rfl rfl (by decide) (by decide) (by decide) rfl rfl (cM_read l D hm am cI cZ _ τ (xs (i + 1).toNatClampNeg) (xs (i + 2).toNatClampNeg) (v', τ') e2) rfl (cwV 2 hTB tp_gL_M_read rfl rfl rfl ⟨rfl, by decide, by decide, by decide +kernel⟩ ⟨Nat.le_trans (Nat.le_of_ble_eq_true rfl) rF, Nat.le_trans (Nat.le_of_ble_eq_true rfl) rL⟩) rfl hl.1 rfl (Nat.le_of_ble_eq_true rfl) dL_law_404 ⟨hc, hs⟩ (fun H locs hP hD hS => ?_)
  have hP : va_P D tp_CL (tp_wL h a hm am o cI cZ cJ σ' τ' f') H := hP.sub [9, 10, 11, 12, 13, 14, 0, 1, 2, 3, 4, 5, 6, 7, 8] rfl
  have hD : va_D A0 (tp_wL h a hm am o cI cZ cJ σ' τ' f') := hD.sub [9, 10, 11, 12, 13, 14, 0, 1, 2, 3, 4, 5, 6, 7, 8] (by decide) rfl
  refine W.eq (g2 := F0 m 407 ls [.int v']) rfl ?_
  refine lv_istore hx hb dL_law_407 hl (by decide) rfl (fun ls hl => ?_)
  have hl : lv_has ls 7 [(6, .int v'), (5, .int (tp_nI (tp_mpI k))), (0, .ref b), (1, .ref h), (2, .ref hm), (3, .ref o), (4, .int i)] := hl
  refine lv_aload_n hx hb dL_law_409 rfl (lv_at hl 4 rfl) ?_
  refine tp_kP (w := tp_wM hm am cI cZ τ') (r := τ' 0 0) (rest := []) S (hK.sub (tys' := [(cI, .int), (cZ, .boolean)]) [0, 1] rfl) (hP.sub [0, 1, 2, 3, 4, 5] rfl) (hD.sub (ws' := tp_wM hm am cI cZ τ') [0, 1, 2, 3, 4, 5] (by decide) rfl) rfl rfl (cM_thrown l D hm am cI cZ _ τ' (τ' 0 0) rfl) (cwV 0 hTB tp_gL_M_thrown rfl rfl rfl ⟨rfl, by decide, by decide, by decide +kernel⟩ ⟨Nat.le_trans (Nat.le_of_ble_eq_true rfl) rF, Nat.le_trans (Nat.le_of_ble_eq_true rfl) rL⟩) rfl hl.1 rfl (Nat.le_of_ble_eq_true rfl) dL_law_410 ⟨hc, hs⟩ ?_
  refine lv_iload hx hb dL_law_413 (lv_at hl 1 rfl) ?_
  refine lv_icmp_eq (tgt := 420) hx hb dL_law_415 (by decide) (fun _ => ?_) (fun z => absurd t0 z)
  refine lv_iload hx hb dL_law_420 (lv_at hl 1 rfl) ?_
  refine lv_if_ne (tgt := 437) hx hb dL_law_422 (by decide) (fun _ => ?_) (fun z => ?_)
  · refine lv_goto (tgt := 865) hx hb dL_law_437 (by decide) ?_
    exact kk (σ') (τ') (f') H locs ls I' R' hP hD hS (lv_sub hl [2, 3, 4, 5, 6] rfl)
  · have k0 : k = 0 := tp_mpI_z hk5 z
    refine lv_aload_n hx hb dL_law_425 rfl (lv_at hl 5 rfl) ?_
    refine lv_iconst (v := 0) hx hb dL_law_426 (by decide) ?_
    refine va_lald hx hb hK hP 6 2 rfl rfl tp_vin0 dL_law_427 ?_
    refine lv_iload hx hb dL_law_428 (lv_at hl 0 rfl) ?_
    refine lv_i2l (v := v'.toInt64) hx hb dL_law_430 rfl ?_
    refine W.lcmp hx hb dL_law_431 ?_
    refine lv_if_eq (tgt := 437) hx hb dL_law_432 (by decide) (fun _ => ?_) (fun z => absurd (tp_lcmp_z ((hv0 k0).trans (congrArg Int32.toInt64 (hv k0)))) z)
    refine lv_goto (tgt := 865) hx hb dL_law_437 (by decide) ?_
    exact kk (σ') (τ') (f') H locs ls I' R' hP hD hS (lv_sub hl [2, 3, 4, 5, 6] rfl)
set_option maxHeartbeats 4000000 in
set_option maxRecDepth 100000 in
theorem tp_lc_6 {p : Program} {l : Launch} {e : Env} {R : Room} {s : State} {m : MethodId} {args : Array Value} {below : List Frame} {meth : Method} {c : Code} {H : Heap} {locs : List Loc} {cells slots : Nat} {Q : State → Prop} {ls : Array Slot} {D : va_G} {A0 : Nat → Prop} {h hm o b L : Nat} {a am : Nat → Nat} {cI cZ cJ : ClassId} {σ τ : tp_St} {f : Nat → Int64} {xs : Nat → Int32} {i : Int32} (hl0 : l.stackTraces = false) (rF : 10 ≤ R.frames) (rL : 356 ≤ R.locals) (S : CallFix p m c tp_bL_law 7 s args tp_TB tp_RL) (hK : va_K D tp_CL [(cI, .int), (cZ, .boolean), (cJ, .long)] s) (hX : tp_xZ A0 s) (hA : ∀ q : Nat, s.heap.size ≤ q → A0 q) (hXs : va_X b L xs s s.heap) (hbl : b < s.heap.size) (hbA : ¬ A0 b) (hc : cells + 1 ≤ R.cells) (hs : slots + 6 ≤ R.slots)
    (hI : tp_Inv σ) (hR : tp_Rel tp_noX σ τ) (hP : va_P D tp_CL (tp_wL h a hm am o cI cZ cJ σ τ f) H) (hD : va_D A0 (tp_wL h a hm am o cI cZ cJ σ τ f)) (hS : va_S A0 s.heap H locs) (i1 : vp_in (i + 1) L) (i2 : vp_in (i + 2) L) (i3 : vp_in (i + 3) L) (hl : lv_has ls 7 [(0, .ref b), (1, .ref h), (2, .ref hm), (3, .ref o), (4, .int i)])
    (kk : ∀ (σ' τ' : tp_St) (f' : Nat → Int64) (H' : Heap) (locs' : List Loc) (ls' : Array Slot), tp_Inv σ' → tp_Rel tp_noX σ' τ' → va_P D tp_CL (tp_wL h a hm am o cI cZ cJ σ' τ' f') H' → va_D A0 (tp_wL h a hm am o cI cZ cJ σ' τ' f') → va_S A0 s.heap H' locs' → lv_has ls' 7 [(0, .ref b), (1, .ref h), (2, .ref hm), (3, .ref o), (4, .int i)] → W p l e R s m args below meth c H' locs' (cells + 1) (slots + 6) Q (F0 m 865 ls' [])) : W p l e R s m args below meth c H locs cells slots Q (F0 m 440 ls []) := by
  have hx := S.1
  have hb := S.2.1
  have hTB := S.2.2.2.2
  refine lv_aload_n hx hb dL_law_440 rfl (lv_at hl 1 rfl) ?_
  refine lv_aload_n hx hb dL_law_441 rfl (lv_at hl 0 rfl) ?_
  refine lv_iload hx hb dL_law_442 (lv_at hl 4 rfl) ?_
  refine lv_iconst (v := 1) hx hb dL_law_444 (by decide) ?_
  refine lv_iadd hx hb dL_law_445 ?_
  refine va_sld hx hb hXs hbl hbA hS i1 dL_law_446 ?_
  refine lv_aload_n hx hb dL_law_447 rfl (lv_at hl 3 rfl) ?_
  obtain ⟨k, v, σ', v', τ', e1, e2, I', R', t0, hv, hk5⟩ := tp_fail_sim hI hR (xs (i + 1).toNatClampNeg)
  refine tp_kSW (wr := tp_wM hm am cI cZ τ) (xs := [.ref h, .int (xs (i + 1).toNatClampNeg), .ref o]) (rest := []) (P := fun vv w' => ∃ f' : Nat → Int64, vv = some (.int (tp_nI (tp_mp1 k))) ∧ (k = 0 → f' 0 = v.toInt64) ∧ w' = (o, .inl (cJ, 1, .inr (.inl f'))) :: tp_wC h a cI cZ σ') S hK hX hP hD hS hA [6, 7, 8, 9, 10, 11, 12, 13, 14] [0, 1, 2, 3, 4, 5] rfl rfl rfl (by decide) (by decide) (by decide) (cL_fail l hl0 D h a cI cZ cJ o _ σ f (xs (i + 1).toNatClampNeg) (k, v, σ') e1) (fun a st oc t z => by obtain ⟨f', z1, z2, z3, tp_z4⟩ := z; exact ⟨_, _, z1, ⟨f', rfl, z2, rfl⟩, z3, tp_z4⟩) (fun vv w' z => by obtain ⟨f', -, -, rfl⟩ := z; rfl) (vx_cwSW 3 hTB tp_gS_fail rfl rfl rfl ⟨by decide, by decide, by decide +kernel⟩ ⟨Nat.le_trans (Nat.le_of_ble_eq_true rfl) rF, Nat.le_trans (Nat.le_of_ble_eq_true rfl) rL⟩) rfl hl.1 rfl (Nat.le_of_ble_eq_true rfl) dL_law_448 ⟨hc, hs⟩ (fun vv w' H locs z hP hD hS => ?_)
  obtain ⟨f', rfl, hv0, rfl⟩ := z
  have hP : va_P D tp_CL (tp_wL h a hm am o cI cZ cJ σ' τ f') H := hP
  have hD : va_D A0 (tp_wL h a hm am o cI cZ cJ σ' τ f') := hD
  refine W.eq (g2 := F0 m 451 ls [.int (tp_nI (tp_mp1 k))]) rfl ?_
  refine lv_istore hx hb dL_law_451 hl (by decide) rfl (fun ls hl => ?_)
  have hl : lv_has ls 7 [(5, .int (tp_nI (tp_mp1 k))), (0, .ref b), (1, .ref h), (2, .ref hm), (3, .ref o), (4, .int i)] := hl
  refine lv_aload_n hx hb dL_law_453 rfl (lv_at hl 3 rfl) ?_
  refine lv_aload_n hx hb dL_law_454 rfl (lv_at hl 1 rfl) ?_
  refine lv_iload hx hb dL_law_455 (lv_at hl 5 rfl) ?_
  refine lv_iconst (v := 1) hx hb dL_law_457 (by decide) ?_
  refine lv_iadd hx hb dL_law_458 ?_
  refine va_sld hx hb hXs hbl hbA hS i1 dL_law_459 ?_
  refine tp_kVw (v := (some (.int v'))) (w' := tp_wM hm am cI cZ τ') (wr := (o, .inl (cJ, 1, .inr (.inl f'))) :: tp_wC h a cI cZ σ') (xs := [.int (xs (i + 1).toNatClampNeg)]) (rest := []) S (hK.sub (tys' := [(cI, .int), (cZ, .boolean)]) [0, 1] rfl) hP hD hS hA [0, 1, 2, 3, 4, 5] [6, 7, 8, 9, 10, 11, 12, 13, 14] rfl rfl rfl (by decide) (by decide) (by decide) rfl rfl (cM_fail l D hm am cI cZ _ τ (xs (i + 1).toNatClampNeg) (v', τ') e2) rfl (cwV 1 hTB tp_gL_M_fail rfl rfl rfl ⟨rfl, by decide, by decide, by decide +kernel⟩ ⟨Nat.le_trans (Nat.le_of_ble_eq_true rfl) rF, Nat.le_trans (Nat.le_of_ble_eq_true rfl) rL⟩) rfl hl.1 rfl (Nat.le_of_ble_eq_true rfl) dL_law_460 ⟨hc, hs⟩ (fun H locs hP hD hS => ?_)
  have hP : va_P D tp_CL (tp_wL h a hm am o cI cZ cJ σ' τ' f') H := hP.sub [9, 10, 11, 12, 13, 14, 0, 1, 2, 3, 4, 5, 6, 7, 8] rfl
  have hD : va_D A0 (tp_wL h a hm am o cI cZ cJ σ' τ' f') := hD.sub [9, 10, 11, 12, 13, 14, 0, 1, 2, 3, 4, 5, 6, 7, 8] (by decide) rfl
  refine W.eq (g2 := F0 m 463 ls [.int v']) rfl ?_
  refine lv_istore hx hb dL_law_463 hl (by decide) rfl (fun ls hl => ?_)
  have hl : lv_has ls 7 [(6, .int v'), (5, .int (tp_nI (tp_mp1 k))), (0, .ref b), (1, .ref h), (2, .ref hm), (3, .ref o), (4, .int i)] := hl
  refine lv_aload_n hx hb dL_law_465 rfl (lv_at hl 4 rfl) ?_
  refine tp_kP (w := tp_wM hm am cI cZ τ') (r := τ' 0 0) (rest := []) S (hK.sub (tys' := [(cI, .int), (cZ, .boolean)]) [0, 1] rfl) (hP.sub [0, 1, 2, 3, 4, 5] rfl) (hD.sub (ws' := tp_wM hm am cI cZ τ') [0, 1, 2, 3, 4, 5] (by decide) rfl) rfl rfl (cM_thrown l D hm am cI cZ _ τ' (τ' 0 0) rfl) (cwV 0 hTB tp_gL_M_thrown rfl rfl rfl ⟨rfl, by decide, by decide, by decide +kernel⟩ ⟨Nat.le_trans (Nat.le_of_ble_eq_true rfl) rF, Nat.le_trans (Nat.le_of_ble_eq_true rfl) rL⟩) rfl hl.1 rfl (Nat.le_of_ble_eq_true rfl) dL_law_466 ⟨hc, hs⟩ ?_
  refine lv_iload hx hb dL_law_469 (lv_at hl 1 rfl) ?_
  refine lv_icmp_eq (tgt := 476) hx hb dL_law_471 (by decide) (fun _ => ?_) (fun z => absurd t0 z)
  refine lv_iload hx hb dL_law_476 (lv_at hl 1 rfl) ?_
  refine lv_if_ne (tgt := 493) hx hb dL_law_478 (by decide) (fun _ => ?_) (fun z => ?_)
  · refine lv_goto (tgt := 865) hx hb dL_law_493 (by decide) ?_
    exact kk (σ') (τ') (f') H locs ls I' R' hP hD hS (lv_sub hl [2, 3, 4, 5, 6] rfl)
  · have k0 : k = 0 := tp_mp1_z hk5 z
    refine lv_aload_n hx hb dL_law_481 rfl (lv_at hl 5 rfl) ?_
    refine lv_iconst (v := 0) hx hb dL_law_482 (by decide) ?_
    refine va_lald hx hb hK hP 6 2 rfl rfl tp_vin0 dL_law_483 ?_
    refine lv_iload hx hb dL_law_484 (lv_at hl 0 rfl) ?_
    refine lv_i2l (v := v'.toInt64) hx hb dL_law_486 rfl ?_
    refine W.lcmp hx hb dL_law_487 ?_
    refine lv_if_eq (tgt := 493) hx hb dL_law_488 (by decide) (fun _ => ?_) (fun z => absurd (tp_lcmp_z ((hv0 k0).trans (congrArg Int32.toInt64 (hv k0)))) z)
    refine lv_goto (tgt := 865) hx hb dL_law_493 (by decide) ?_
    exact kk (σ') (τ') (f') H locs ls I' R' hP hD hS (lv_sub hl [2, 3, 4, 5, 6] rfl)
set_option maxHeartbeats 4000000 in
set_option maxRecDepth 100000 in
theorem tp_lc_7 {p : Program} {l : Launch} {e : Env} {R : Room} {s : State} {m : MethodId} {args : Array Value} {below : List Frame} {meth : Method} {c : Code} {H : Heap} {locs : List Loc} {cells slots : Nat} {Q : State → Prop} {ls : Array Slot} {D : va_G} {A0 : Nat → Prop} {h hm o b L : Nat} {a am : Nat → Nat} {cI cZ cJ : ClassId} {σ τ : tp_St} {f : Nat → Int64} {xs : Nat → Int32} {i : Int32} (hl0 : l.stackTraces = false) (rF : 10 ≤ R.frames) (rL : 356 ≤ R.locals) (S : CallFix p m c tp_bL_law 7 s args tp_TB tp_RL) (hK : va_K D tp_CL [(cI, .int), (cZ, .boolean), (cJ, .long)] s) (hX : tp_xZ A0 s) (hA : ∀ q : Nat, s.heap.size ≤ q → A0 q) (hXs : va_X b L xs s s.heap) (hbl : b < s.heap.size) (hbA : ¬ A0 b) (hc : cells + 1 ≤ R.cells) (hs : slots + 6 ≤ R.slots)
    (hI : tp_Inv σ) (hR : tp_Rel tp_noX σ τ) (hP : va_P D tp_CL (tp_wL h a hm am o cI cZ cJ σ τ f) H) (hD : va_D A0 (tp_wL h a hm am o cI cZ cJ σ τ f)) (hS : va_S A0 s.heap H locs) (i1 : vp_in (i + 1) L) (i2 : vp_in (i + 2) L) (i3 : vp_in (i + 3) L) (hl : lv_has ls 7 [(0, .ref b), (1, .ref h), (2, .ref hm), (3, .ref o), (4, .int i)])
    (kk : ∀ (σ' τ' : tp_St) (f' : Nat → Int64) (H' : Heap) (locs' : List Loc) (ls' : Array Slot), tp_Inv σ' → tp_Rel tp_noX σ' τ' → va_P D tp_CL (tp_wL h a hm am o cI cZ cJ σ' τ' f') H' → va_D A0 (tp_wL h a hm am o cI cZ cJ σ' τ' f') → va_S A0 s.heap H' locs' → lv_has ls' 7 [(0, .ref b), (1, .ref h), (2, .ref hm), (3, .ref o), (4, .int i)] → W p l e R s m args below meth c H' locs' (cells + 1) (slots + 6) Q (F0 m 865 ls' [])) : W p l e R s m args below meth c H locs cells slots Q (F0 m 496 ls []) := by
  have hx := S.1
  have hb := S.2.1
  have hTB := S.2.2.2.2
  refine lv_aload_n hx hb dL_law_496 rfl (lv_at hl 1 rfl) ?_
  refine lv_aload_n hx hb dL_law_497 rfl (lv_at hl 0 rfl) ?_
  refine lv_iload hx hb dL_law_498 (lv_at hl 4 rfl) ?_
  refine lv_iconst (v := 1) hx hb dL_law_500 (by decide) ?_
  refine lv_iadd hx hb dL_law_501 ?_
  refine va_sld hx hb hXs hbl hbA hS i1 dL_law_502 ?_
  refine lv_aload_n hx hb dL_law_503 rfl (lv_at hl 3 rfl) ?_
  obtain ⟨k, v, σ', v', τ', e1, e2, I', R', t0, hv, hk5⟩ := tp_leave_sim hI hR (xs (i + 1).toNatClampNeg)
  refine tp_kSW (wr := tp_wM hm am cI cZ τ) (xs := [.ref h, .int (xs (i + 1).toNatClampNeg), .ref o]) (rest := []) (P := fun vv w' => ∃ f' : Nat → Int64, vv = some (.int (tp_nI (tp_mpL k))) ∧ (k = 0 → f' 0 = v.toInt64) ∧ w' = (o, .inl (cJ, 1, .inr (.inl f'))) :: tp_wC h a cI cZ σ') S hK hX hP hD hS hA [6, 7, 8, 9, 10, 11, 12, 13, 14] [0, 1, 2, 3, 4, 5] rfl rfl rfl (by decide) (by decide) (by decide) (cL_leave l hl0 D h a cI cZ cJ o _ σ f (xs (i + 1).toNatClampNeg) (k, v, σ') e1) (fun a st oc t z => by obtain ⟨f', z1, z2, z3, tp_z4⟩ := z; exact ⟨_, _, z1, ⟨f', rfl, z2, rfl⟩, z3, tp_z4⟩) (fun vv w' z => by obtain ⟨f', -, -, rfl⟩ := z; rfl) (vx_cwSW 3 hTB tp_gS_leave rfl rfl rfl ⟨by decide, by decide, by decide +kernel⟩ ⟨Nat.le_trans (Nat.le_of_ble_eq_true rfl) rF, Nat.le_trans (Nat.le_of_ble_eq_true rfl) rL⟩) rfl hl.1 rfl (Nat.le_of_ble_eq_true rfl) dL_law_504 ⟨hc, hs⟩ (fun vv w' H locs z hP hD hS => ?_)
  obtain ⟨f', rfl, hv0, rfl⟩ := z
  have hP : va_P D tp_CL (tp_wL h a hm am o cI cZ cJ σ' τ f') H := hP
  have hD : va_D A0 (tp_wL h a hm am o cI cZ cJ σ' τ f') := hD
  refine W.eq (g2 := F0 m 507 ls [.int (tp_nI (tp_mpL k))]) rfl ?_
  refine lv_istore hx hb dL_law_507 hl (by decide) rfl (fun ls hl => ?_)
  have hl : lv_has ls 7 [(5, .int (tp_nI (tp_mpL k))), (0, .ref b), (1, .ref h), (2, .ref hm), (3, .ref o), (4, .int i)] := hl
  refine lv_aload_n hx hb dL_law_509 rfl (lv_at hl 3 rfl) ?_
  refine lv_aload_n hx hb dL_law_510 rfl (lv_at hl 1 rfl) ?_
  refine lv_iload hx hb dL_law_511 (lv_at hl 5 rfl) ?_
  refine lv_iconst (v := 1) hx hb dL_law_513 (by decide) ?_
  refine lv_iadd hx hb dL_law_514 ?_
  refine va_sld hx hb hXs hbl hbA hS i1 dL_law_515 ?_
  refine tp_kVw (v := (some (.int v'))) (w' := tp_wM hm am cI cZ τ') (wr := (o, .inl (cJ, 1, .inr (.inl f'))) :: tp_wC h a cI cZ σ') (xs := [.int (xs (i + 1).toNatClampNeg)]) (rest := []) S (hK.sub (tys' := [(cI, .int), (cZ, .boolean)]) [0, 1] rfl) hP hD hS hA [0, 1, 2, 3, 4, 5] [6, 7, 8, 9, 10, 11, 12, 13, 14] rfl rfl rfl (by decide) (by decide) (by decide) rfl rfl (cM_leave l D hm am cI cZ _ τ (xs (i + 1).toNatClampNeg) (v', τ') e2) rfl (cwV 1 hTB tp_gL_M_leave rfl rfl rfl ⟨rfl, by decide, by decide, by decide +kernel⟩ ⟨Nat.le_trans (Nat.le_of_ble_eq_true rfl) rF, Nat.le_trans (Nat.le_of_ble_eq_true rfl) rL⟩) rfl hl.1 rfl (Nat.le_of_ble_eq_true rfl) dL_law_516 ⟨hc, hs⟩ (fun H locs hP hD hS => ?_)
  have hP : va_P D tp_CL (tp_wL h a hm am o cI cZ cJ σ' τ' f') H := hP.sub [9, 10, 11, 12, 13, 14, 0, 1, 2, 3, 4, 5, 6, 7, 8] rfl
  have hD : va_D A0 (tp_wL h a hm am o cI cZ cJ σ' τ' f') := hD.sub [9, 10, 11, 12, 13, 14, 0, 1, 2, 3, 4, 5, 6, 7, 8] (by decide) rfl
  refine W.eq (g2 := F0 m 519 ls [.int v']) rfl ?_
  refine lv_istore hx hb dL_law_519 hl (by decide) rfl (fun ls hl => ?_)
  have hl : lv_has ls 7 [(6, .int v'), (5, .int (tp_nI (tp_mpL k))), (0, .ref b), (1, .ref h), (2, .ref hm), (3, .ref o), (4, .int i)] := hl
  refine lv_aload_n hx hb dL_law_521 rfl (lv_at hl 4 rfl) ?_
  refine tp_kP (w := tp_wM hm am cI cZ τ') (r := τ' 0 0) (rest := []) S (hK.sub (tys' := [(cI, .int), (cZ, .boolean)]) [0, 1] rfl) (hP.sub [0, 1, 2, 3, 4, 5] rfl) (hD.sub (ws' := tp_wM hm am cI cZ τ') [0, 1, 2, 3, 4, 5] (by decide) rfl) rfl rfl (cM_thrown l D hm am cI cZ _ τ' (τ' 0 0) rfl) (cwV 0 hTB tp_gL_M_thrown rfl rfl rfl ⟨rfl, by decide, by decide, by decide +kernel⟩ ⟨Nat.le_trans (Nat.le_of_ble_eq_true rfl) rF, Nat.le_trans (Nat.le_of_ble_eq_true rfl) rL⟩) rfl hl.1 rfl (Nat.le_of_ble_eq_true rfl) dL_law_522 ⟨hc, hs⟩ ?_
  refine lv_iload hx hb dL_law_525 (lv_at hl 1 rfl) ?_
  refine lv_icmp_eq (tgt := 532) hx hb dL_law_527 (by decide) (fun _ => ?_) (fun z => absurd t0 z)
  refine lv_iload hx hb dL_law_532 (lv_at hl 1 rfl) ?_
  refine lv_if_ne (tgt := 549) hx hb dL_law_534 (by decide) (fun _ => ?_) (fun z => ?_)
  · refine lv_goto (tgt := 865) hx hb dL_law_549 (by decide) ?_
    exact kk (σ') (τ') (f') H locs ls I' R' hP hD hS (lv_sub hl [2, 3, 4, 5, 6] rfl)
  · have k0 : k = 0 := tp_mpL_z hk5 z
    refine lv_aload_n hx hb dL_law_537 rfl (lv_at hl 5 rfl) ?_
    refine lv_iconst (v := 0) hx hb dL_law_538 (by decide) ?_
    refine va_lald hx hb hK hP 6 2 rfl rfl tp_vin0 dL_law_539 ?_
    refine lv_iload hx hb dL_law_540 (lv_at hl 0 rfl) ?_
    refine lv_i2l (v := v'.toInt64) hx hb dL_law_542 rfl ?_
    refine W.lcmp hx hb dL_law_543 ?_
    refine lv_if_eq (tgt := 549) hx hb dL_law_544 (by decide) (fun _ => ?_) (fun z => absurd (tp_lcmp_z ((hv0 k0).trans (congrArg Int32.toInt64 (hv k0)))) z)
    refine lv_goto (tgt := 865) hx hb dL_law_549 (by decide) ?_
    exact kk (σ') (τ') (f') H locs ls I' R' hP hD hS (lv_sub hl [2, 3, 4, 5, 6] rfl)
set_option maxHeartbeats 4000000 in
set_option maxRecDepth 100000 in
theorem tp_lc_8 {p : Program} {l : Launch} {e : Env} {R : Room} {s : State} {m : MethodId} {args : Array Value} {below : List Frame} {meth : Method} {c : Code} {H : Heap} {locs : List Loc} {cells slots : Nat} {Q : State → Prop} {ls : Array Slot} {D : va_G} {A0 : Nat → Prop} {h hm o b L : Nat} {a am : Nat → Nat} {cI cZ cJ : ClassId} {σ τ : tp_St} {f : Nat → Int64} {xs : Nat → Int32} {i : Int32} (hl0 : l.stackTraces = false) (rF : 10 ≤ R.frames) (rL : 356 ≤ R.locals) (S : CallFix p m c tp_bL_law 7 s args tp_TB tp_RL) (hK : va_K D tp_CL [(cI, .int), (cZ, .boolean), (cJ, .long)] s) (hX : tp_xZ A0 s) (hA : ∀ q : Nat, s.heap.size ≤ q → A0 q) (hXs : va_X b L xs s s.heap) (hbl : b < s.heap.size) (hbA : ¬ A0 b) (hc : cells + 1 ≤ R.cells) (hs : slots + 6 ≤ R.slots)
    (hI : tp_Inv σ) (hR : tp_Rel tp_noX σ τ) (hP : va_P D tp_CL (tp_wL h a hm am o cI cZ cJ σ τ f) H) (hD : va_D A0 (tp_wL h a hm am o cI cZ cJ σ τ f)) (hS : va_S A0 s.heap H locs) (i1 : vp_in (i + 1) L) (i2 : vp_in (i + 2) L) (i3 : vp_in (i + 3) L) (hl : lv_has ls 7 [(0, .ref b), (1, .ref h), (2, .ref hm), (3, .ref o), (4, .int i)])
    (kk : ∀ (σ' τ' : tp_St) (f' : Nat → Int64) (H' : Heap) (locs' : List Loc) (ls' : Array Slot), tp_Inv σ' → tp_Rel tp_noX σ' τ' → va_P D tp_CL (tp_wL h a hm am o cI cZ cJ σ' τ' f') H' → va_D A0 (tp_wL h a hm am o cI cZ cJ σ' τ' f') → va_S A0 s.heap H' locs' → lv_has ls' 7 [(0, .ref b), (1, .ref h), (2, .ref hm), (3, .ref o), (4, .int i)] → W p l e R s m args below meth c H' locs' (cells + 1) (slots + 6) Q (F0 m 865 ls' [])) : W p l e R s m args below meth c H locs cells slots Q (F0 m 552 ls []) := by
  have hx := S.1
  have hb := S.2.1
  have hTB := S.2.2.2.2
  refine lv_aload_n hx hb dL_law_552 rfl (lv_at hl 1 rfl) ?_
  refine lv_aload_n hx hb dL_law_553 rfl (lv_at hl 0 rfl) ?_
  refine lv_iload hx hb dL_law_554 (lv_at hl 4 rfl) ?_
  refine lv_iconst (v := 1) hx hb dL_law_556 (by decide) ?_
  refine lv_iadd hx hb dL_law_557 ?_
  refine va_sld hx hb hXs hbl hbA hS i1 dL_law_558 ?_
  obtain ⟨k, v, σ', τ', e1, e2, I', R', t0, hk5⟩ := tp_stay_sim hI hR (xs (i + 1).toNatClampNeg)
  refine tp_kSW (wr := tp_wM hm am cI cZ τ ++ [(o, .inl (cJ, 1, .inr (.inl f)))]) (xs := [.ref h, .int (xs (i + 1).toNatClampNeg)]) (rest := []) (P := fun vv w' => vv = some (.int (tp_nI (tp_mpI k))) ∧ w' = tp_wC h a cI cZ σ') S (hK.sub (tys' := [(cI, .int), (cZ, .boolean)]) [0, 1] rfl) hX hP hD hS hA [7, 8, 9, 10, 11, 12, 13, 14] [0, 1, 2, 3, 4, 5, 6] rfl rfl rfl (by decide) (by decide) (by decide) (cL_stay l hl0 D h a cI cZ _ σ (xs (i + 1).toNatClampNeg) (k, v, σ') e1) (fun a st oc t z => ⟨_, _, z.1, ⟨rfl, rfl⟩, z.2.1, z.2.2⟩) (fun vv w' z => by obtain ⟨-, rfl⟩ := z; rfl) (vx_cwSW 2 hTB tp_gS_stay rfl rfl rfl ⟨by decide, by decide, by decide +kernel⟩ ⟨Nat.le_trans (Nat.le_of_ble_eq_true rfl) rF, Nat.le_trans (Nat.le_of_ble_eq_true rfl) rL⟩) rfl hl.1 rfl (Nat.le_of_ble_eq_true rfl) dL_law_559 ⟨hc, hs⟩ (fun vv w' H locs z hP hD hS => ?_)
  obtain ⟨rfl, rfl⟩ := z
  have hP : va_P D tp_CL (tp_wL h a hm am o cI cZ cJ σ' τ f) H := hP
  have hD : va_D A0 (tp_wL h a hm am o cI cZ cJ σ' τ f) := hD
  refine W.eq (g2 := F0 m 562 ls [.int (tp_nI (tp_mpI k))]) rfl ?_
  refine lv_istore hx hb dL_law_562 hl (by decide) rfl (fun ls hl => ?_)
  have hl : lv_has ls 7 [(5, .int (tp_nI (tp_mpI k))), (0, .ref b), (1, .ref h), (2, .ref hm), (3, .ref o), (4, .int i)] := hl
  refine lv_aload_n hx hb dL_law_564 rfl (lv_at hl 3 rfl) ?_
  refine lv_aload_n hx hb dL_law_565 rfl (lv_at hl 1 rfl) ?_
  refine lv_iload hx hb dL_law_566 (lv_at hl 5 rfl) ?_
  refine lv_iconst (v := 1) hx hb dL_law_568 (by decide) ?_
  refine lv_iadd hx hb dL_law_569 ?_
  refine va_sld hx hb hXs hbl hbA hS i1 dL_law_570 ?_
  refine tp_kVw (v := none) (w' := tp_wM hm am cI cZ τ') (wr := (o, .inl (cJ, 1, .inr (.inl f))) :: tp_wC h a cI cZ σ') (xs := [.int (xs (i + 1).toNatClampNeg)]) (rest := []) S (hK.sub (tys' := [(cI, .int), (cZ, .boolean)]) [0, 1] rfl) hP hD hS hA [0, 1, 2, 3, 4, 5] [6, 7, 8, 9, 10, 11, 12, 13, 14] rfl rfl rfl (by decide) (by decide) (by decide) rfl rfl (cM_stay l D hm am cI cZ _ τ (xs (i + 1).toNatClampNeg) τ' e2) rfl (cwV 1 hTB tp_gL_M_stay rfl rfl rfl ⟨rfl, by decide, by decide, by decide +kernel⟩ ⟨Nat.le_trans (Nat.le_of_ble_eq_true rfl) rF, Nat.le_trans (Nat.le_of_ble_eq_true rfl) rL⟩) rfl hl.1 rfl (Nat.le_of_ble_eq_true rfl) dL_law_571 ⟨hc, hs⟩ (fun H locs hP hD hS => ?_)
  have hP : va_P D tp_CL (tp_wL h a hm am o cI cZ cJ σ' τ' f) H := hP.sub [9, 10, 11, 12, 13, 14, 0, 1, 2, 3, 4, 5, 6, 7, 8] rfl
  have hD : va_D A0 (tp_wL h a hm am o cI cZ cJ σ' τ' f) := hD.sub [9, 10, 11, 12, 13, 14, 0, 1, 2, 3, 4, 5, 6, 7, 8] (by decide) rfl
  refine lv_aload_n hx hb dL_law_574 rfl (lv_at hl 3 rfl) ?_
  refine tp_kP (w := tp_wM hm am cI cZ τ') (r := τ' 0 0) (rest := []) S (hK.sub (tys' := [(cI, .int), (cZ, .boolean)]) [0, 1] rfl) (hP.sub [0, 1, 2, 3, 4, 5] rfl) (hD.sub (ws' := tp_wM hm am cI cZ τ') [0, 1, 2, 3, 4, 5] (by decide) rfl) rfl rfl (cM_thrown l D hm am cI cZ _ τ' (τ' 0 0) rfl) (cwV 0 hTB tp_gL_M_thrown rfl rfl rfl ⟨rfl, by decide, by decide, by decide +kernel⟩ ⟨Nat.le_trans (Nat.le_of_ble_eq_true rfl) rF, Nat.le_trans (Nat.le_of_ble_eq_true rfl) rL⟩) rfl hl.1 rfl (Nat.le_of_ble_eq_true rfl) dL_law_575 ⟨hc, hs⟩ ?_
  refine lv_iload hx hb dL_law_578 (lv_at hl 0 rfl) ?_
  refine lv_icmp_eq (tgt := 585) hx hb dL_law_580 (by decide) (fun _ => ?_) (fun z => absurd t0 z)
  refine lv_goto (tgt := 865) hx hb dL_law_585 (by decide) ?_
  exact kk (σ') (τ') f H locs ls I' R' hP hD hS (lv_sub hl [1, 2, 3, 4, 5] rfl)
set_option maxHeartbeats 4000000 in
set_option maxRecDepth 100000 in
theorem tp_lc_9 {p : Program} {l : Launch} {e : Env} {R : Room} {s : State} {m : MethodId} {args : Array Value} {below : List Frame} {meth : Method} {c : Code} {H : Heap} {locs : List Loc} {cells slots : Nat} {Q : State → Prop} {ls : Array Slot} {D : va_G} {A0 : Nat → Prop} {h hm o b L : Nat} {a am : Nat → Nat} {cI cZ cJ : ClassId} {σ τ : tp_St} {f : Nat → Int64} {xs : Nat → Int32} {i : Int32} (hl0 : l.stackTraces = false) (rF : 10 ≤ R.frames) (rL : 356 ≤ R.locals) (S : CallFix p m c tp_bL_law 7 s args tp_TB tp_RL) (hK : va_K D tp_CL [(cI, .int), (cZ, .boolean), (cJ, .long)] s) (hX : tp_xZ A0 s) (hA : ∀ q : Nat, s.heap.size ≤ q → A0 q) (hXs : va_X b L xs s s.heap) (hbl : b < s.heap.size) (hbA : ¬ A0 b) (hc : cells + 1 ≤ R.cells) (hs : slots + 6 ≤ R.slots)
    (hI : tp_Inv σ) (hR : tp_Rel tp_noX σ τ) (hP : va_P D tp_CL (tp_wL h a hm am o cI cZ cJ σ τ f) H) (hD : va_D A0 (tp_wL h a hm am o cI cZ cJ σ τ f)) (hS : va_S A0 s.heap H locs) (i1 : vp_in (i + 1) L) (i2 : vp_in (i + 2) L) (i3 : vp_in (i + 3) L) (hl : lv_has ls 7 [(0, .ref b), (1, .ref h), (2, .ref hm), (3, .ref o), (4, .int i)])
    (kk : ∀ (σ' τ' : tp_St) (f' : Nat → Int64) (H' : Heap) (locs' : List Loc) (ls' : Array Slot), tp_Inv σ' → tp_Rel tp_noX σ' τ' → va_P D tp_CL (tp_wL h a hm am o cI cZ cJ σ' τ' f') H' → va_D A0 (tp_wL h a hm am o cI cZ cJ σ' τ' f') → va_S A0 s.heap H' locs' → lv_has ls' 7 [(0, .ref b), (1, .ref h), (2, .ref hm), (3, .ref o), (4, .int i)] → W p l e R s m args below meth c H' locs' (cells + 1) (slots + 6) Q (F0 m 865 ls' [])) : W p l e R s m args below meth c H locs cells slots Q (F0 m 588 ls []) := by
  have hx := S.1
  have hb := S.2.1
  have hTB := S.2.2.2.2
  refine lv_aload_n hx hb dL_law_588 rfl (lv_at hl 1 rfl) ?_
  obtain ⟨r, σ', τ', e1, e2, I', R', t0⟩ := tp_step1_sim hI hR
  refine tp_kVw (v := some (.int r)) (w' := tp_wC h a cI cZ σ') (wr := tp_wM hm am cI cZ τ ++ [(o, .inl (cJ, 1, .inr (.inl f)))]) (xs := []) (rest := []) S (hK.sub (tys' := [(cI, .int), (cZ, .boolean)]) [0, 1] rfl) hP hD hS hA [7, 8, 9, 10, 11, 12, 13, 14] [0, 1, 2, 3, 4, 5, 6] rfl rfl rfl (by decide) (by decide) (by decide) rfl rfl (cC_step l D h a cI cZ _ σ (r, σ') e1) rfl (cwV 0 hTB tp_gL_C_step rfl rfl rfl ⟨rfl, by decide, by decide, by decide +kernel⟩ ⟨Nat.le_trans (Nat.le_of_ble_eq_true rfl) rF, Nat.le_trans (Nat.le_of_ble_eq_true rfl) rL⟩) rfl hl.1 rfl (Nat.le_of_ble_eq_true rfl) dL_law_589 ⟨Nat.le_of_succ_le hc, Nat.le_of_add_right_le hs⟩ (fun H locs hP hD hS => ?_)
  have hP : va_P D tp_CL (tp_wL h a hm am o cI cZ cJ σ' τ f) H := hP
  have hD : va_D A0 (tp_wL h a hm am o cI cZ cJ σ' τ f) := hD
  refine W.eq (g2 := F0 m 592 ls [.int r]) rfl ?_
  refine lv_aload_n hx hb dL_law_592 rfl (lv_at hl 2 rfl) ?_
  refine tp_kVw (v := (some (.int r))) (w' := tp_wM hm am cI cZ τ') (wr := (o, .inl (cJ, 1, .inr (.inl f))) :: tp_wC h a cI cZ σ') (xs := []) (rest := [.int r]) S (hK.sub (tys' := [(cI, .int), (cZ, .boolean)]) [0, 1] rfl) hP hD hS hA [0, 1, 2, 3, 4, 5] [6, 7, 8, 9, 10, 11, 12, 13, 14] rfl rfl rfl (by decide) (by decide) (by decide) rfl rfl (cM_step l D hm am cI cZ _ τ  (r, τ') e2) rfl (cwV 0 hTB tp_gL_M_step rfl rfl rfl ⟨rfl, by decide, by decide, by decide +kernel⟩ ⟨Nat.le_trans (Nat.le_of_ble_eq_true rfl) rF, Nat.le_trans (Nat.le_of_ble_eq_true rfl) rL⟩) rfl hl.1 rfl (Nat.le_of_ble_eq_true rfl) dL_law_593 ⟨Nat.le_of_succ_le hc, Nat.le_of_add_right_le hs⟩ (fun H locs hP hD hS => ?_)
  have hP : va_P D tp_CL (tp_wL h a hm am o cI cZ cJ σ' τ' f) H := hP.sub [9, 10, 11, 12, 13, 14, 0, 1, 2, 3, 4, 5, 6, 7, 8] rfl
  have hD : va_D A0 (tp_wL h a hm am o cI cZ cJ σ' τ' f) := hD.sub [9, 10, 11, 12, 13, 14, 0, 1, 2, 3, 4, 5, 6, 7, 8] (by decide) rfl
  refine W.eq (g2 := F0 m 596 ls [.int r, .int r]) rfl ?_
  refine lv_icmp_eq (tgt := 865) hx hb dL_law_596 (by decide) (fun _ => ?_) (fun z => absurd rfl z)
  refine W.widen (k := cells + 1) (n := slots + 6) (Nat.le_succ _) (Nat.le_add_right _ _) ?_
  exact kk (σ') (τ') f H locs ls I' R' hP hD hS (lv_sub hl [0, 1, 2, 3, 4] rfl)
set_option maxHeartbeats 4000000 in
set_option maxRecDepth 100000 in
theorem tp_lc_10 {p : Program} {l : Launch} {e : Env} {R : Room} {s : State} {m : MethodId} {args : Array Value} {below : List Frame} {meth : Method} {c : Code} {H : Heap} {locs : List Loc} {cells slots : Nat} {Q : State → Prop} {ls : Array Slot} {D : va_G} {A0 : Nat → Prop} {h hm o b L : Nat} {a am : Nat → Nat} {cI cZ cJ : ClassId} {σ τ : tp_St} {f : Nat → Int64} {xs : Nat → Int32} {i : Int32} (hl0 : l.stackTraces = false) (rF : 10 ≤ R.frames) (rL : 356 ≤ R.locals) (S : CallFix p m c tp_bL_law 7 s args tp_TB tp_RL) (hK : va_K D tp_CL [(cI, .int), (cZ, .boolean), (cJ, .long)] s) (hX : tp_xZ A0 s) (hA : ∀ q : Nat, s.heap.size ≤ q → A0 q) (hXs : va_X b L xs s s.heap) (hbl : b < s.heap.size) (hbA : ¬ A0 b) (hc : cells + 1 ≤ R.cells) (hs : slots + 6 ≤ R.slots)
    (hI : tp_Inv σ) (hR : tp_Rel tp_noX σ τ) (hP : va_P D tp_CL (tp_wL h a hm am o cI cZ cJ σ τ f) H) (hD : va_D A0 (tp_wL h a hm am o cI cZ cJ σ τ f)) (hS : va_S A0 s.heap H locs) (i1 : vp_in (i + 1) L) (i2 : vp_in (i + 2) L) (i3 : vp_in (i + 3) L) (hl : lv_has ls 7 [(0, .ref b), (1, .ref h), (2, .ref hm), (3, .ref o), (4, .int i)])
    (kk : ∀ (σ' τ' : tp_St) (f' : Nat → Int64) (H' : Heap) (locs' : List Loc) (ls' : Array Slot), tp_Inv σ' → tp_Rel tp_noX σ' τ' → va_P D tp_CL (tp_wL h a hm am o cI cZ cJ σ' τ' f') H' → va_D A0 (tp_wL h a hm am o cI cZ cJ σ' τ' f') → va_S A0 s.heap H' locs' → lv_has ls' 7 [(0, .ref b), (1, .ref h), (2, .ref hm), (3, .ref o), (4, .int i)] → W p l e R s m args below meth c H' locs' (cells + 1) (slots + 6) Q (F0 m 865 ls' [])) : W p l e R s m args below meth c H locs cells slots Q (F0 m 601 ls []) := by
  have hx := S.1
  have hb := S.2.1
  have hTB := S.2.2.2.2
  refine lv_aload_n hx hb dL_law_601 rfl (lv_at hl 1 rfl) ?_
  refine lv_aload_n hx hb dL_law_602 rfl (lv_at hl 0 rfl) ?_
  refine lv_iload hx hb dL_law_603 (lv_at hl 4 rfl) ?_
  refine lv_iconst (v := 1) hx hb dL_law_605 (by decide) ?_
  refine lv_iadd hx hb dL_law_606 ?_
  refine va_sld hx hb hXs hbl hbA hS i1 dL_law_607 ?_
  refine lv_aload_n hx hb dL_law_608 rfl (lv_at hl 3 rfl) ?_
  obtain ⟨k, v, σ', v', τ', e1, e2, I', R', t0, hv, hk5⟩ := tp_steps_sim hI hR (xs (i + 1).toNatClampNeg)
  refine tp_kSW (wr := tp_wM hm am cI cZ τ) (xs := [.ref h, .int (xs (i + 1).toNatClampNeg), .ref o]) (rest := []) (P := fun vv w' => ∃ f' : Nat → Int64, vv = some (.int (tp_nI (tp_mp1 k))) ∧ (k = 0 → f' 0 = v.toInt64) ∧ w' = (o, .inl (cJ, 1, .inr (.inl f'))) :: tp_wC h a cI cZ σ') S hK hX hP hD hS hA [6, 7, 8, 9, 10, 11, 12, 13, 14] [0, 1, 2, 3, 4, 5] rfl rfl rfl (by decide) (by decide) (by decide) (cL_steps l hl0 D h a cI cZ cJ o _ σ f (xs (i + 1).toNatClampNeg) (k, v, σ') e1) (fun a st oc t z => by obtain ⟨f', z1, z2, z3, tp_z4⟩ := z; exact ⟨_, _, z1, ⟨f', rfl, z2, rfl⟩, z3, tp_z4⟩) (fun vv w' z => by obtain ⟨f', -, -, rfl⟩ := z; rfl) (vx_cwSW 3 hTB tp_gS_steps rfl rfl rfl ⟨by decide, by decide, by decide +kernel⟩ ⟨Nat.le_trans (Nat.le_of_ble_eq_true rfl) rF, Nat.le_trans (Nat.le_of_ble_eq_true rfl) rL⟩) rfl hl.1 rfl (Nat.le_of_ble_eq_true rfl) dL_law_609 ⟨hc, hs⟩ (fun vv w' H locs z hP hD hS => ?_)
  obtain ⟨f', rfl, hv0, rfl⟩ := z
  have hP : va_P D tp_CL (tp_wL h a hm am o cI cZ cJ σ' τ f') H := hP
  have hD : va_D A0 (tp_wL h a hm am o cI cZ cJ σ' τ f') := hD
  refine W.eq (g2 := F0 m 612 ls [.int (tp_nI (tp_mp1 k))]) rfl ?_
  refine lv_istore hx hb dL_law_612 hl (by decide) rfl (fun ls hl => ?_)
  have hl : lv_has ls 7 [(5, .int (tp_nI (tp_mp1 k))), (0, .ref b), (1, .ref h), (2, .ref hm), (3, .ref o), (4, .int i)] := hl
  refine lv_aload_n hx hb dL_law_614 rfl (lv_at hl 3 rfl) ?_
  refine lv_aload_n hx hb dL_law_615 rfl (lv_at hl 1 rfl) ?_
  refine lv_iload hx hb dL_law_616 (lv_at hl 5 rfl) ?_
  refine lv_iconst (v := 1) hx hb dL_law_618 (by decide) ?_
  refine lv_iadd hx hb dL_law_619 ?_
  refine va_sld hx hb hXs hbl hbA hS i1 dL_law_620 ?_
  refine tp_kVw (v := (some (.int v'))) (w' := tp_wM hm am cI cZ τ') (wr := (o, .inl (cJ, 1, .inr (.inl f'))) :: tp_wC h a cI cZ σ') (xs := [.int (xs (i + 1).toNatClampNeg)]) (rest := []) S (hK.sub (tys' := [(cI, .int), (cZ, .boolean)]) [0, 1] rfl) hP hD hS hA [0, 1, 2, 3, 4, 5] [6, 7, 8, 9, 10, 11, 12, 13, 14] rfl rfl rfl (by decide) (by decide) (by decide) rfl rfl (cM_steps l D hm am cI cZ _ τ (xs (i + 1).toNatClampNeg) (v', τ') e2) rfl (cwV 1 hTB tp_gL_M_steps rfl rfl rfl ⟨rfl, by decide, by decide, by decide +kernel⟩ ⟨Nat.le_trans (Nat.le_of_ble_eq_true rfl) rF, Nat.le_trans (Nat.le_of_ble_eq_true rfl) rL⟩) rfl hl.1 rfl (Nat.le_of_ble_eq_true rfl) dL_law_621 ⟨hc, hs⟩ (fun H locs hP hD hS => ?_)
  have hP : va_P D tp_CL (tp_wL h a hm am o cI cZ cJ σ' τ' f') H := hP.sub [9, 10, 11, 12, 13, 14, 0, 1, 2, 3, 4, 5, 6, 7, 8] rfl
  have hD : va_D A0 (tp_wL h a hm am o cI cZ cJ σ' τ' f') := hD.sub [9, 10, 11, 12, 13, 14, 0, 1, 2, 3, 4, 5, 6, 7, 8] (by decide) rfl
  refine W.eq (g2 := F0 m 624 ls [.int v']) rfl ?_
  refine lv_istore hx hb dL_law_624 hl (by decide) rfl (fun ls hl => ?_)
  have hl : lv_has ls 7 [(6, .int v'), (5, .int (tp_nI (tp_mp1 k))), (0, .ref b), (1, .ref h), (2, .ref hm), (3, .ref o), (4, .int i)] := hl
  refine lv_aload_n hx hb dL_law_626 rfl (lv_at hl 4 rfl) ?_
  refine tp_kP (w := tp_wM hm am cI cZ τ') (r := τ' 0 0) (rest := []) S (hK.sub (tys' := [(cI, .int), (cZ, .boolean)]) [0, 1] rfl) (hP.sub [0, 1, 2, 3, 4, 5] rfl) (hD.sub (ws' := tp_wM hm am cI cZ τ') [0, 1, 2, 3, 4, 5] (by decide) rfl) rfl rfl (cM_thrown l D hm am cI cZ _ τ' (τ' 0 0) rfl) (cwV 0 hTB tp_gL_M_thrown rfl rfl rfl ⟨rfl, by decide, by decide, by decide +kernel⟩ ⟨Nat.le_trans (Nat.le_of_ble_eq_true rfl) rF, Nat.le_trans (Nat.le_of_ble_eq_true rfl) rL⟩) rfl hl.1 rfl (Nat.le_of_ble_eq_true rfl) dL_law_627 ⟨hc, hs⟩ ?_
  refine lv_iload hx hb dL_law_630 (lv_at hl 1 rfl) ?_
  refine lv_icmp_eq (tgt := 637) hx hb dL_law_632 (by decide) (fun _ => ?_) (fun z => absurd t0 z)
  refine lv_iload hx hb dL_law_637 (lv_at hl 1 rfl) ?_
  refine lv_if_ne (tgt := 654) hx hb dL_law_639 (by decide) (fun _ => ?_) (fun z => ?_)
  · refine lv_goto (tgt := 865) hx hb dL_law_654 (by decide) ?_
    exact kk (σ') (τ') (f') H locs ls I' R' hP hD hS (lv_sub hl [2, 3, 4, 5, 6] rfl)
  · have k0 : k = 0 := tp_mp1_z hk5 z
    refine lv_aload_n hx hb dL_law_642 rfl (lv_at hl 5 rfl) ?_
    refine lv_iconst (v := 0) hx hb dL_law_643 (by decide) ?_
    refine va_lald hx hb hK hP 6 2 rfl rfl tp_vin0 dL_law_644 ?_
    refine lv_iload hx hb dL_law_645 (lv_at hl 0 rfl) ?_
    refine lv_i2l (v := v'.toInt64) hx hb dL_law_647 rfl ?_
    refine W.lcmp hx hb dL_law_648 ?_
    refine lv_if_eq (tgt := 654) hx hb dL_law_649 (by decide) (fun _ => ?_) (fun z => absurd (tp_lcmp_z ((hv0 k0).trans (congrArg Int32.toInt64 (hv k0)))) z)
    refine lv_goto (tgt := 865) hx hb dL_law_654 (by decide) ?_
    exact kk (σ') (τ') (f') H locs ls I' R' hP hD hS (lv_sub hl [2, 3, 4, 5, 6] rfl)
set_option maxHeartbeats 4000000 in
set_option maxRecDepth 100000 in
theorem tp_lc_11 {p : Program} {l : Launch} {e : Env} {R : Room} {s : State} {m : MethodId} {args : Array Value} {below : List Frame} {meth : Method} {c : Code} {H : Heap} {locs : List Loc} {cells slots : Nat} {Q : State → Prop} {ls : Array Slot} {D : va_G} {A0 : Nat → Prop} {h hm o b L : Nat} {a am : Nat → Nat} {cI cZ cJ : ClassId} {σ τ : tp_St} {f : Nat → Int64} {xs : Nat → Int32} {i : Int32} (hl0 : l.stackTraces = false) (rF : 10 ≤ R.frames) (rL : 356 ≤ R.locals) (S : CallFix p m c tp_bL_law 7 s args tp_TB tp_RL) (hK : va_K D tp_CL [(cI, .int), (cZ, .boolean), (cJ, .long)] s) (hX : tp_xZ A0 s) (hA : ∀ q : Nat, s.heap.size ≤ q → A0 q) (hXs : va_X b L xs s s.heap) (hbl : b < s.heap.size) (hbA : ¬ A0 b) (hc : cells + 1 ≤ R.cells) (hs : slots + 6 ≤ R.slots)
    (hI : tp_Inv σ) (hR : tp_Rel tp_noX σ τ) (hP : va_P D tp_CL (tp_wL h a hm am o cI cZ cJ σ τ f) H) (hD : va_D A0 (tp_wL h a hm am o cI cZ cJ σ τ f)) (hS : va_S A0 s.heap H locs) (i1 : vp_in (i + 1) L) (i2 : vp_in (i + 2) L) (i3 : vp_in (i + 3) L) (hl : lv_has ls 7 [(0, .ref b), (1, .ref h), (2, .ref hm), (3, .ref o), (4, .int i)])
    (kk : ∀ (σ' τ' : tp_St) (f' : Nat → Int64) (H' : Heap) (locs' : List Loc) (ls' : Array Slot), tp_Inv σ' → tp_Rel tp_noX σ' τ' → va_P D tp_CL (tp_wL h a hm am o cI cZ cJ σ' τ' f') H' → va_D A0 (tp_wL h a hm am o cI cZ cJ σ' τ' f') → va_S A0 s.heap H' locs' → lv_has ls' 7 [(0, .ref b), (1, .ref h), (2, .ref hm), (3, .ref o), (4, .int i)] → W p l e R s m args below meth c H' locs' (cells + 1) (slots + 6) Q (F0 m 865 ls' [])) : W p l e R s m args below meth c H locs cells slots Q (F0 m 657 ls []) := by
  have hx := S.1
  have hb := S.2.1
  have hTB := S.2.2.2.2
  by_cases hz : (xs (i + 2).toNatClampNeg) = 0
  · refine lv_aload_n hx hb dL_law_657 rfl (lv_at hl 1 rfl) ?_
    refine lv_aload_n hx hb dL_law_658 rfl (lv_at hl 0 rfl) ?_
    refine lv_iload hx hb dL_law_659 (lv_at hl 4 rfl) ?_
    refine lv_iconst (v := 1) hx hb dL_law_661 (by decide) ?_
    refine lv_iadd hx hb dL_law_662 ?_
    refine va_sld hx hb hXs hbl hbA hS i1 dL_law_663 ?_
    refine lv_aload_n hx hb dL_law_664 rfl (lv_at hl 0 rfl) ?_
    refine lv_iload hx hb dL_law_665 (lv_at hl 4 rfl) ?_
    refine lv_iconst (v := 2) hx hb dL_law_667 (by decide) ?_
    refine lv_iadd hx hb dL_law_668 ?_
    refine va_sld hx hb hXs hbl hbA hS i2 dL_law_669 ?_
    refine lv_if_eq (tgt := 677) hx hb dL_law_670 (by decide) (fun _ => ?_) (fun z => absurd hz z)
    refine lv_iconst (v := 0) hx hb dL_law_677 (by decide) ?_
    refine lv_aload_n hx hb dL_law_678 rfl (lv_at hl 3 rfl) ?_
    obtain ⟨k, v, σ', v', τ', e1, e2, I', R', t0, hv, hk5⟩ := tp_place_sim hI hR (xs (i + 1).toNatClampNeg) 0
    refine tp_kSW (wr := tp_wM hm am cI cZ τ) (xs := [.ref h, .int (xs (i + 1).toNatClampNeg), .int 0, .ref o]) (rest := []) (P := fun vv w' => ∃ f' : Nat → Int64, vv = some (.int (tp_nI (tp_mp1 k))) ∧ (k = 0 → f' 0 = v.toInt64) ∧ w' = (o, .inl (cJ, 1, .inr (.inl f'))) :: tp_wC h a cI cZ σ') S hK hX hP hD hS hA [6, 7, 8, 9, 10, 11, 12, 13, 14] [0, 1, 2, 3, 4, 5] rfl rfl rfl (by decide) (by decide) (by decide) (cL_place l hl0 D h a cI cZ cJ o _ σ f (xs (i + 1).toNatClampNeg) 0 (k, v, σ') e1) (fun a st oc t z => by obtain ⟨f', z1, z2, z3, tp_z4⟩ := z; exact ⟨_, _, z1, ⟨f', rfl, z2, rfl⟩, z3, tp_z4⟩) (fun vv w' z => by obtain ⟨f', -, -, rfl⟩ := z; rfl) (vx_cwSW 4 hTB tp_gS_place rfl rfl rfl ⟨by decide, by decide, by decide +kernel⟩ ⟨Nat.le_trans (Nat.le_of_ble_eq_true rfl) rF, Nat.le_trans (Nat.le_of_ble_eq_true rfl) rL⟩) rfl hl.1 rfl (Nat.le_of_ble_eq_true rfl) dL_law_679 ⟨hc, hs⟩ (fun vv w' H locs z hP hD hS => ?_)
    obtain ⟨f', rfl, hv0, rfl⟩ := z
    have hP : va_P D tp_CL (tp_wL h a hm am o cI cZ cJ σ' τ f') H := hP
    have hD : va_D A0 (tp_wL h a hm am o cI cZ cJ σ' τ f') := hD
    refine W.eq (g2 := F0 m 682 ls [.int (tp_nI (tp_mp1 k))]) rfl ?_
    refine lv_istore hx hb dL_law_682 hl (by decide) rfl (fun ls hl => ?_)
    have hl : lv_has ls 7 [(5, .int (tp_nI (tp_mp1 k))), (0, .ref b), (1, .ref h), (2, .ref hm), (3, .ref o), (4, .int i)] := hl
    refine lv_aload_n hx hb dL_law_684 rfl (lv_at hl 3 rfl) ?_
    refine lv_aload_n hx hb dL_law_685 rfl (lv_at hl 1 rfl) ?_
    refine lv_iload hx hb dL_law_686 (lv_at hl 5 rfl) ?_
    refine lv_iconst (v := 1) hx hb dL_law_688 (by decide) ?_
    refine lv_iadd hx hb dL_law_689 ?_
    refine va_sld hx hb hXs hbl hbA hS i1 dL_law_690 ?_
    refine lv_aload_n hx hb dL_law_691 rfl (lv_at hl 1 rfl) ?_
    refine lv_iload hx hb dL_law_692 (lv_at hl 5 rfl) ?_
    refine lv_iconst (v := 2) hx hb dL_law_694 (by decide) ?_
    refine lv_iadd hx hb dL_law_695 ?_
    refine va_sld hx hb hXs hbl hbA hS i2 dL_law_696 ?_
    refine lv_if_eq (tgt := 704) hx hb dL_law_697 (by decide) (fun _ => ?_) (fun z => absurd hz z)
    refine lv_iconst (v := 0) hx hb dL_law_704 (by decide) ?_
    refine tp_kVw (v := (some (.int v'))) (w' := tp_wM hm am cI cZ τ') (wr := (o, .inl (cJ, 1, .inr (.inl f'))) :: tp_wC h a cI cZ σ') (xs := [.int (xs (i + 1).toNatClampNeg), .int 0]) (rest := []) S (hK.sub (tys' := [(cI, .int), (cZ, .boolean)]) [0, 1] rfl) hP hD hS hA [0, 1, 2, 3, 4, 5] [6, 7, 8, 9, 10, 11, 12, 13, 14] rfl rfl rfl (by decide) (by decide) (by decide) rfl rfl (cM_place l D hm am cI cZ _ τ (xs (i + 1).toNatClampNeg) 0 (v', τ') e2) rfl (cwV 2 hTB tp_gL_M_place rfl rfl rfl ⟨rfl, by decide, by decide, by decide +kernel⟩ ⟨Nat.le_trans (Nat.le_of_ble_eq_true rfl) rF, Nat.le_trans (Nat.le_of_ble_eq_true rfl) rL⟩) rfl hl.1 rfl (Nat.le_of_ble_eq_true rfl) dL_law_705 ⟨hc, hs⟩ (fun H locs hP hD hS => ?_)
    have hP : va_P D tp_CL (tp_wL h a hm am o cI cZ cJ σ' τ' f') H := hP.sub [9, 10, 11, 12, 13, 14, 0, 1, 2, 3, 4, 5, 6, 7, 8] rfl
    have hD : va_D A0 (tp_wL h a hm am o cI cZ cJ σ' τ' f') := hD.sub [9, 10, 11, 12, 13, 14, 0, 1, 2, 3, 4, 5, 6, 7, 8] (by decide) rfl
    refine W.eq (g2 := F0 m 708 ls [.int v']) rfl ?_
    refine lv_istore hx hb dL_law_708 hl (by decide) rfl (fun ls hl => ?_)
    have hl : lv_has ls 7 [(6, .int v'), (5, .int (tp_nI (tp_mp1 k))), (0, .ref b), (1, .ref h), (2, .ref hm), (3, .ref o), (4, .int i)] := hl
    refine lv_aload_n hx hb dL_law_710 rfl (lv_at hl 4 rfl) ?_
    refine tp_kP (w := tp_wM hm am cI cZ τ') (r := τ' 0 0) (rest := []) S (hK.sub (tys' := [(cI, .int), (cZ, .boolean)]) [0, 1] rfl) (hP.sub [0, 1, 2, 3, 4, 5] rfl) (hD.sub (ws' := tp_wM hm am cI cZ τ') [0, 1, 2, 3, 4, 5] (by decide) rfl) rfl rfl (cM_thrown l D hm am cI cZ _ τ' (τ' 0 0) rfl) (cwV 0 hTB tp_gL_M_thrown rfl rfl rfl ⟨rfl, by decide, by decide, by decide +kernel⟩ ⟨Nat.le_trans (Nat.le_of_ble_eq_true rfl) rF, Nat.le_trans (Nat.le_of_ble_eq_true rfl) rL⟩) rfl hl.1 rfl (Nat.le_of_ble_eq_true rfl) dL_law_711 ⟨hc, hs⟩ ?_
    refine lv_iload hx hb dL_law_714 (lv_at hl 1 rfl) ?_
    refine lv_icmp_eq (tgt := 721) hx hb dL_law_716 (by decide) (fun _ => ?_) (fun z => absurd t0 z)
    refine lv_iload hx hb dL_law_721 (lv_at hl 1 rfl) ?_
    refine lv_if_ne (tgt := 738) hx hb dL_law_723 (by decide) (fun _ => ?_) (fun z => ?_)
    · refine lv_goto (tgt := 865) hx hb dL_law_738 (by decide) ?_
      exact kk (σ') (τ') (f') H locs ls I' R' hP hD hS (lv_sub hl [2, 3, 4, 5, 6] rfl)
    · have k0 : k = 0 := tp_mp1_z hk5 z
      refine lv_aload_n hx hb dL_law_726 rfl (lv_at hl 5 rfl) ?_
      refine lv_iconst (v := 0) hx hb dL_law_727 (by decide) ?_
      refine va_lald hx hb hK hP 6 2 rfl rfl tp_vin0 dL_law_728 ?_
      refine lv_iload hx hb dL_law_729 (lv_at hl 0 rfl) ?_
      refine lv_i2l (v := v'.toInt64) hx hb dL_law_731 rfl ?_
      refine W.lcmp hx hb dL_law_732 ?_
      refine lv_if_eq (tgt := 738) hx hb dL_law_733 (by decide) (fun _ => ?_) (fun z => absurd (tp_lcmp_z ((hv0 k0).trans (congrArg Int32.toInt64 (hv k0)))) z)
      refine lv_goto (tgt := 865) hx hb dL_law_738 (by decide) ?_
      exact kk (σ') (τ') (f') H locs ls I' R' hP hD hS (lv_sub hl [2, 3, 4, 5, 6] rfl)
  · refine lv_aload_n hx hb dL_law_657 rfl (lv_at hl 1 rfl) ?_
    refine lv_aload_n hx hb dL_law_658 rfl (lv_at hl 0 rfl) ?_
    refine lv_iload hx hb dL_law_659 (lv_at hl 4 rfl) ?_
    refine lv_iconst (v := 1) hx hb dL_law_661 (by decide) ?_
    refine lv_iadd hx hb dL_law_662 ?_
    refine va_sld hx hb hXs hbl hbA hS i1 dL_law_663 ?_
    refine lv_aload_n hx hb dL_law_664 rfl (lv_at hl 0 rfl) ?_
    refine lv_iload hx hb dL_law_665 (lv_at hl 4 rfl) ?_
    refine lv_iconst (v := 2) hx hb dL_law_667 (by decide) ?_
    refine lv_iadd hx hb dL_law_668 ?_
    refine va_sld hx hb hXs hbl hbA hS i2 dL_law_669 ?_
    refine lv_if_eq (tgt := 677) hx hb dL_law_670 (by decide) (fun z => absurd z hz) (fun _ => ?_)
    refine lv_iconst (v := 1) hx hb dL_law_673 (by decide) ?_
    refine lv_goto (tgt := 678) hx hb dL_law_674 (by decide) ?_
    refine lv_aload_n hx hb dL_law_678 rfl (lv_at hl 3 rfl) ?_
    obtain ⟨k, v, σ', v', τ', e1, e2, I', R', t0, hv, hk5⟩ := tp_place_sim hI hR (xs (i + 1).toNatClampNeg) 1
    refine tp_kSW (wr := tp_wM hm am cI cZ τ) (xs := [.ref h, .int (xs (i + 1).toNatClampNeg), .int 1, .ref o]) (rest := []) (P := fun vv w' => ∃ f' : Nat → Int64, vv = some (.int (tp_nI (tp_mp1 k))) ∧ (k = 0 → f' 0 = v.toInt64) ∧ w' = (o, .inl (cJ, 1, .inr (.inl f'))) :: tp_wC h a cI cZ σ') S hK hX hP hD hS hA [6, 7, 8, 9, 10, 11, 12, 13, 14] [0, 1, 2, 3, 4, 5] rfl rfl rfl (by decide) (by decide) (by decide) (cL_place l hl0 D h a cI cZ cJ o _ σ f (xs (i + 1).toNatClampNeg) 1 (k, v, σ') e1) (fun a st oc t z => by obtain ⟨f', z1, z2, z3, tp_z4⟩ := z; exact ⟨_, _, z1, ⟨f', rfl, z2, rfl⟩, z3, tp_z4⟩) (fun vv w' z => by obtain ⟨f', -, -, rfl⟩ := z; rfl) (vx_cwSW 4 hTB tp_gS_place rfl rfl rfl ⟨by decide, by decide, by decide +kernel⟩ ⟨Nat.le_trans (Nat.le_of_ble_eq_true rfl) rF, Nat.le_trans (Nat.le_of_ble_eq_true rfl) rL⟩) rfl hl.1 rfl (Nat.le_of_ble_eq_true rfl) dL_law_679 ⟨hc, hs⟩ (fun vv w' H locs z hP hD hS => ?_)
    obtain ⟨f', rfl, hv0, rfl⟩ := z
    have hP : va_P D tp_CL (tp_wL h a hm am o cI cZ cJ σ' τ f') H := hP
    have hD : va_D A0 (tp_wL h a hm am o cI cZ cJ σ' τ f') := hD
    refine W.eq (g2 := F0 m 682 ls [.int (tp_nI (tp_mp1 k))]) rfl ?_
    refine lv_istore hx hb dL_law_682 hl (by decide) rfl (fun ls hl => ?_)
    have hl : lv_has ls 7 [(5, .int (tp_nI (tp_mp1 k))), (0, .ref b), (1, .ref h), (2, .ref hm), (3, .ref o), (4, .int i)] := hl
    refine lv_aload_n hx hb dL_law_684 rfl (lv_at hl 3 rfl) ?_
    refine lv_aload_n hx hb dL_law_685 rfl (lv_at hl 1 rfl) ?_
    refine lv_iload hx hb dL_law_686 (lv_at hl 5 rfl) ?_
    refine lv_iconst (v := 1) hx hb dL_law_688 (by decide) ?_
    refine lv_iadd hx hb dL_law_689 ?_
    refine va_sld hx hb hXs hbl hbA hS i1 dL_law_690 ?_
    refine lv_aload_n hx hb dL_law_691 rfl (lv_at hl 1 rfl) ?_
    refine lv_iload hx hb dL_law_692 (lv_at hl 5 rfl) ?_
    refine lv_iconst (v := 2) hx hb dL_law_694 (by decide) ?_
    refine lv_iadd hx hb dL_law_695 ?_
    refine va_sld hx hb hXs hbl hbA hS i2 dL_law_696 ?_
    refine lv_if_eq (tgt := 704) hx hb dL_law_697 (by decide) (fun z => absurd z hz) (fun _ => ?_)
    refine lv_iconst (v := 1) hx hb dL_law_700 (by decide) ?_
    refine lv_goto (tgt := 705) hx hb dL_law_701 (by decide) ?_
    refine tp_kVw (v := (some (.int v'))) (w' := tp_wM hm am cI cZ τ') (wr := (o, .inl (cJ, 1, .inr (.inl f'))) :: tp_wC h a cI cZ σ') (xs := [.int (xs (i + 1).toNatClampNeg), .int 1]) (rest := []) S (hK.sub (tys' := [(cI, .int), (cZ, .boolean)]) [0, 1] rfl) hP hD hS hA [0, 1, 2, 3, 4, 5] [6, 7, 8, 9, 10, 11, 12, 13, 14] rfl rfl rfl (by decide) (by decide) (by decide) rfl rfl (cM_place l D hm am cI cZ _ τ (xs (i + 1).toNatClampNeg) 1 (v', τ') e2) rfl (cwV 2 hTB tp_gL_M_place rfl rfl rfl ⟨rfl, by decide, by decide, by decide +kernel⟩ ⟨Nat.le_trans (Nat.le_of_ble_eq_true rfl) rF, Nat.le_trans (Nat.le_of_ble_eq_true rfl) rL⟩) rfl hl.1 rfl (Nat.le_of_ble_eq_true rfl) dL_law_705 ⟨hc, hs⟩ (fun H locs hP hD hS => ?_)
    have hP : va_P D tp_CL (tp_wL h a hm am o cI cZ cJ σ' τ' f') H := hP.sub [9, 10, 11, 12, 13, 14, 0, 1, 2, 3, 4, 5, 6, 7, 8] rfl
    have hD : va_D A0 (tp_wL h a hm am o cI cZ cJ σ' τ' f') := hD.sub [9, 10, 11, 12, 13, 14, 0, 1, 2, 3, 4, 5, 6, 7, 8] (by decide) rfl
    refine W.eq (g2 := F0 m 708 ls [.int v']) rfl ?_
    refine lv_istore hx hb dL_law_708 hl (by decide) rfl (fun ls hl => ?_)
    have hl : lv_has ls 7 [(6, .int v'), (5, .int (tp_nI (tp_mp1 k))), (0, .ref b), (1, .ref h), (2, .ref hm), (3, .ref o), (4, .int i)] := hl
    refine lv_aload_n hx hb dL_law_710 rfl (lv_at hl 4 rfl) ?_
    refine tp_kP (w := tp_wM hm am cI cZ τ') (r := τ' 0 0) (rest := []) S (hK.sub (tys' := [(cI, .int), (cZ, .boolean)]) [0, 1] rfl) (hP.sub [0, 1, 2, 3, 4, 5] rfl) (hD.sub (ws' := tp_wM hm am cI cZ τ') [0, 1, 2, 3, 4, 5] (by decide) rfl) rfl rfl (cM_thrown l D hm am cI cZ _ τ' (τ' 0 0) rfl) (cwV 0 hTB tp_gL_M_thrown rfl rfl rfl ⟨rfl, by decide, by decide, by decide +kernel⟩ ⟨Nat.le_trans (Nat.le_of_ble_eq_true rfl) rF, Nat.le_trans (Nat.le_of_ble_eq_true rfl) rL⟩) rfl hl.1 rfl (Nat.le_of_ble_eq_true rfl) dL_law_711 ⟨hc, hs⟩ ?_
    refine lv_iload hx hb dL_law_714 (lv_at hl 1 rfl) ?_
    refine lv_icmp_eq (tgt := 721) hx hb dL_law_716 (by decide) (fun _ => ?_) (fun z => absurd t0 z)
    refine lv_iload hx hb dL_law_721 (lv_at hl 1 rfl) ?_
    refine lv_if_ne (tgt := 738) hx hb dL_law_723 (by decide) (fun _ => ?_) (fun z => ?_)
    · refine lv_goto (tgt := 865) hx hb dL_law_738 (by decide) ?_
      exact kk (σ') (τ') (f') H locs ls I' R' hP hD hS (lv_sub hl [2, 3, 4, 5, 6] rfl)
    · have k0 : k = 0 := tp_mp1_z hk5 z
      refine lv_aload_n hx hb dL_law_726 rfl (lv_at hl 5 rfl) ?_
      refine lv_iconst (v := 0) hx hb dL_law_727 (by decide) ?_
      refine va_lald hx hb hK hP 6 2 rfl rfl tp_vin0 dL_law_728 ?_
      refine lv_iload hx hb dL_law_729 (lv_at hl 0 rfl) ?_
      refine lv_i2l (v := v'.toInt64) hx hb dL_law_731 rfl ?_
      refine W.lcmp hx hb dL_law_732 ?_
      refine lv_if_eq (tgt := 738) hx hb dL_law_733 (by decide) (fun _ => ?_) (fun z => absurd (tp_lcmp_z ((hv0 k0).trans (congrArg Int32.toInt64 (hv k0)))) z)
      refine lv_goto (tgt := 865) hx hb dL_law_738 (by decide) ?_
      exact kk (σ') (τ') (f') H locs ls I' R' hP hD hS (lv_sub hl [2, 3, 4, 5, 6] rfl)
set_option maxHeartbeats 4000000 in
set_option maxRecDepth 100000 in
theorem tp_lc_12 {p : Program} {l : Launch} {e : Env} {R : Room} {s : State} {m : MethodId} {args : Array Value} {below : List Frame} {meth : Method} {c : Code} {H : Heap} {locs : List Loc} {cells slots : Nat} {Q : State → Prop} {ls : Array Slot} {D : va_G} {A0 : Nat → Prop} {h hm o b L : Nat} {a am : Nat → Nat} {cI cZ cJ : ClassId} {σ τ : tp_St} {f : Nat → Int64} {xs : Nat → Int32} {i : Int32} (hl0 : l.stackTraces = false) (rF : 10 ≤ R.frames) (rL : 356 ≤ R.locals) (S : CallFix p m c tp_bL_law 7 s args tp_TB tp_RL) (hK : va_K D tp_CL [(cI, .int), (cZ, .boolean), (cJ, .long)] s) (hX : tp_xZ A0 s) (hA : ∀ q : Nat, s.heap.size ≤ q → A0 q) (hXs : va_X b L xs s s.heap) (hbl : b < s.heap.size) (hbA : ¬ A0 b) (hc : cells + 1 ≤ R.cells) (hs : slots + 6 ≤ R.slots)
    (hI : tp_Inv σ) (hR : tp_Rel tp_noX σ τ) (hP : va_P D tp_CL (tp_wL h a hm am o cI cZ cJ σ τ f) H) (hD : va_D A0 (tp_wL h a hm am o cI cZ cJ σ τ f)) (hS : va_S A0 s.heap H locs) (i1 : vp_in (i + 1) L) (i2 : vp_in (i + 2) L) (i3 : vp_in (i + 3) L) (hl : lv_has ls 7 [(0, .ref b), (1, .ref h), (2, .ref hm), (3, .ref o), (4, .int i)])
    (kk : ∀ (σ' τ' : tp_St) (f' : Nat → Int64) (H' : Heap) (locs' : List Loc) (ls' : Array Slot), tp_Inv σ' → tp_Rel tp_noX σ' τ' → va_P D tp_CL (tp_wL h a hm am o cI cZ cJ σ' τ' f') H' → va_D A0 (tp_wL h a hm am o cI cZ cJ σ' τ' f') → va_S A0 s.heap H' locs' → lv_has ls' 7 [(0, .ref b), (1, .ref h), (2, .ref hm), (3, .ref o), (4, .int i)] → W p l e R s m args below meth c H' locs' (cells + 1) (slots + 6) Q (F0 m 865 ls' [])) : W p l e R s m args below meth c H locs cells slots Q (F0 m 741 ls []) := by
  have hx := S.1
  have hb := S.2.1
  have hTB := S.2.2.2.2
  refine lv_aload_n hx hb dL_law_741 rfl (lv_at hl 1 rfl) ?_
  refine lv_aload_n hx hb dL_law_742 rfl (lv_at hl 0 rfl) ?_
  refine lv_iload hx hb dL_law_743 (lv_at hl 4 rfl) ?_
  refine lv_iconst (v := 1) hx hb dL_law_745 (by decide) ?_
  refine lv_iadd hx hb dL_law_746 ?_
  refine va_sld hx hb hXs hbl hbA hS i1 dL_law_747 ?_
  refine lv_aload_n hx hb dL_law_748 rfl (lv_at hl 0 rfl) ?_
  refine lv_iload hx hb dL_law_749 (lv_at hl 4 rfl) ?_
  refine lv_iconst (v := 2) hx hb dL_law_751 (by decide) ?_
  refine lv_iadd hx hb dL_law_752 ?_
  refine va_sld hx hb hXs hbl hbA hS i2 dL_law_753 ?_
  refine lv_aload_n hx hb dL_law_754 rfl (lv_at hl 3 rfl) ?_
  obtain ⟨k, v, σ', v', τ', e1, e2, I', R', t0, hv, hk5⟩ := tp_about_sim hI hR (xs (i + 1).toNatClampNeg) (xs (i + 2).toNatClampNeg)
  refine tp_kSW (wr := tp_wM hm am cI cZ τ) (xs := [.ref h, .int (xs (i + 1).toNatClampNeg), .int (xs (i + 2).toNatClampNeg), .ref o]) (rest := []) (P := fun vv w' => ∃ f' : Nat → Int64, vv = some (.int (tp_nI (tp_mpA k))) ∧ (k = 0 → f' 0 = v.toInt64) ∧ w' = (o, .inl (cJ, 1, .inr (.inl f'))) :: tp_wC h a cI cZ σ') S hK hX hP hD hS hA [6, 7, 8, 9, 10, 11, 12, 13, 14] [0, 1, 2, 3, 4, 5] rfl rfl rfl (by decide) (by decide) (by decide) (cL_about l hl0 D h a cI cZ cJ o _ σ f (xs (i + 1).toNatClampNeg) (xs (i + 2).toNatClampNeg) (k, v, σ') e1) (fun a st oc t z => by obtain ⟨f', z1, z2, z3, tp_z4⟩ := z; exact ⟨_, _, z1, ⟨f', rfl, z2, rfl⟩, z3, tp_z4⟩) (fun vv w' z => by obtain ⟨f', -, -, rfl⟩ := z; rfl) (vx_cwSW 4 hTB tp_gS_about rfl rfl rfl ⟨by decide, by decide, by decide +kernel⟩ ⟨Nat.le_trans (Nat.le_of_ble_eq_true rfl) rF, Nat.le_trans (Nat.le_of_ble_eq_true rfl) rL⟩) rfl hl.1 rfl (Nat.le_of_ble_eq_true rfl) dL_law_755 ⟨hc, hs⟩ (fun vv w' H locs z hP hD hS => ?_)
  obtain ⟨f', rfl, hv0, rfl⟩ := z
  have hP : va_P D tp_CL (tp_wL h a hm am o cI cZ cJ σ' τ f') H := hP
  have hD : va_D A0 (tp_wL h a hm am o cI cZ cJ σ' τ f') := hD
  refine W.eq (g2 := F0 m 758 ls [.int (tp_nI (tp_mpA k))]) rfl ?_
  refine lv_istore hx hb dL_law_758 hl (by decide) rfl (fun ls hl => ?_)
  have hl : lv_has ls 7 [(5, .int (tp_nI (tp_mpA k))), (0, .ref b), (1, .ref h), (2, .ref hm), (3, .ref o), (4, .int i)] := hl
  refine lv_aload_n hx hb dL_law_760 rfl (lv_at hl 3 rfl) ?_
  refine lv_aload_n hx hb dL_law_761 rfl (lv_at hl 1 rfl) ?_
  refine lv_iload hx hb dL_law_762 (lv_at hl 5 rfl) ?_
  refine lv_iconst (v := 1) hx hb dL_law_764 (by decide) ?_
  refine lv_iadd hx hb dL_law_765 ?_
  refine va_sld hx hb hXs hbl hbA hS i1 dL_law_766 ?_
  refine lv_aload_n hx hb dL_law_767 rfl (lv_at hl 1 rfl) ?_
  refine lv_iload hx hb dL_law_768 (lv_at hl 5 rfl) ?_
  refine lv_iconst (v := 2) hx hb dL_law_770 (by decide) ?_
  refine lv_iadd hx hb dL_law_771 ?_
  refine va_sld hx hb hXs hbl hbA hS i2 dL_law_772 ?_
  refine tp_kVw (v := (some (.int v'))) (w' := tp_wM hm am cI cZ τ') (wr := (o, .inl (cJ, 1, .inr (.inl f'))) :: tp_wC h a cI cZ σ') (xs := [.int (xs (i + 1).toNatClampNeg), .int (xs (i + 2).toNatClampNeg)]) (rest := []) S (hK.sub (tys' := [(cI, .int), (cZ, .boolean)]) [0, 1] rfl) hP hD hS hA [0, 1, 2, 3, 4, 5] [6, 7, 8, 9, 10, 11, 12, 13, 14] rfl rfl rfl (by decide) (by decide) (by decide) rfl rfl (cM_about l D hm am cI cZ _ τ (xs (i + 1).toNatClampNeg) (xs (i + 2).toNatClampNeg) (v', τ') e2) rfl (cwV 2 hTB tp_gL_M_about rfl rfl rfl ⟨rfl, by decide, by decide, by decide +kernel⟩ ⟨Nat.le_trans (Nat.le_of_ble_eq_true rfl) rF, Nat.le_trans (Nat.le_of_ble_eq_true rfl) rL⟩) rfl hl.1 rfl (Nat.le_of_ble_eq_true rfl) dL_law_773 ⟨hc, hs⟩ (fun H locs hP hD hS => ?_)
  have hP : va_P D tp_CL (tp_wL h a hm am o cI cZ cJ σ' τ' f') H := hP.sub [9, 10, 11, 12, 13, 14, 0, 1, 2, 3, 4, 5, 6, 7, 8] rfl
  have hD : va_D A0 (tp_wL h a hm am o cI cZ cJ σ' τ' f') := hD.sub [9, 10, 11, 12, 13, 14, 0, 1, 2, 3, 4, 5, 6, 7, 8] (by decide) rfl
  refine W.eq (g2 := F0 m 776 ls [.int v']) rfl ?_
  refine lv_istore hx hb dL_law_776 hl (by decide) rfl (fun ls hl => ?_)
  have hl : lv_has ls 7 [(6, .int v'), (5, .int (tp_nI (tp_mpA k))), (0, .ref b), (1, .ref h), (2, .ref hm), (3, .ref o), (4, .int i)] := hl
  refine lv_aload_n hx hb dL_law_778 rfl (lv_at hl 4 rfl) ?_
  refine tp_kP (w := tp_wM hm am cI cZ τ') (r := τ' 0 0) (rest := []) S (hK.sub (tys' := [(cI, .int), (cZ, .boolean)]) [0, 1] rfl) (hP.sub [0, 1, 2, 3, 4, 5] rfl) (hD.sub (ws' := tp_wM hm am cI cZ τ') [0, 1, 2, 3, 4, 5] (by decide) rfl) rfl rfl (cM_thrown l D hm am cI cZ _ τ' (τ' 0 0) rfl) (cwV 0 hTB tp_gL_M_thrown rfl rfl rfl ⟨rfl, by decide, by decide, by decide +kernel⟩ ⟨Nat.le_trans (Nat.le_of_ble_eq_true rfl) rF, Nat.le_trans (Nat.le_of_ble_eq_true rfl) rL⟩) rfl hl.1 rfl (Nat.le_of_ble_eq_true rfl) dL_law_779 ⟨hc, hs⟩ ?_
  refine lv_iload hx hb dL_law_782 (lv_at hl 1 rfl) ?_
  refine lv_icmp_eq (tgt := 789) hx hb dL_law_784 (by decide) (fun _ => ?_) (fun z => absurd t0 z)
  refine lv_iload hx hb dL_law_789 (lv_at hl 1 rfl) ?_
  refine lv_if_ne (tgt := 806) hx hb dL_law_791 (by decide) (fun _ => ?_) (fun z => ?_)
  · refine lv_goto (tgt := 865) hx hb dL_law_806 (by decide) ?_
    exact kk (σ') (τ') (f') H locs ls I' R' hP hD hS (lv_sub hl [2, 3, 4, 5, 6] rfl)
  · have k0 : k = 0 := tp_mpA_z hk5 z
    refine lv_aload_n hx hb dL_law_794 rfl (lv_at hl 5 rfl) ?_
    refine lv_iconst (v := 0) hx hb dL_law_795 (by decide) ?_
    refine va_lald hx hb hK hP 6 2 rfl rfl tp_vin0 dL_law_796 ?_
    refine lv_iload hx hb dL_law_797 (lv_at hl 0 rfl) ?_
    refine lv_i2l (v := v'.toInt64) hx hb dL_law_799 rfl ?_
    refine W.lcmp hx hb dL_law_800 ?_
    refine lv_if_eq (tgt := 806) hx hb dL_law_801 (by decide) (fun _ => ?_) (fun z => absurd (tp_lcmp_z ((hv0 k0).trans (congrArg Int32.toInt64 (hv k0)))) z)
    refine lv_goto (tgt := 865) hx hb dL_law_806 (by decide) ?_
    exact kk (σ') (τ') (f') H locs ls I' R' hP hD hS (lv_sub hl [2, 3, 4, 5, 6] rfl)
set_option maxHeartbeats 4000000 in
set_option maxRecDepth 100000 in
theorem tp_lc_13 {p : Program} {l : Launch} {e : Env} {R : Room} {s : State} {m : MethodId} {args : Array Value} {below : List Frame} {meth : Method} {c : Code} {H : Heap} {locs : List Loc} {cells slots : Nat} {Q : State → Prop} {ls : Array Slot} {D : va_G} {A0 : Nat → Prop} {h hm o b L : Nat} {a am : Nat → Nat} {cI cZ cJ : ClassId} {σ τ : tp_St} {f : Nat → Int64} {xs : Nat → Int32} {i : Int32} (hl0 : l.stackTraces = false) (rF : 10 ≤ R.frames) (rL : 356 ≤ R.locals) (S : CallFix p m c tp_bL_law 7 s args tp_TB tp_RL) (hK : va_K D tp_CL [(cI, .int), (cZ, .boolean), (cJ, .long)] s) (hX : tp_xZ A0 s) (hA : ∀ q : Nat, s.heap.size ≤ q → A0 q) (hXs : va_X b L xs s s.heap) (hbl : b < s.heap.size) (hbA : ¬ A0 b) (hc : cells + 1 ≤ R.cells) (hs : slots + 6 ≤ R.slots)
    (hI : tp_Inv σ) (hR : tp_Rel tp_noX σ τ) (hP : va_P D tp_CL (tp_wL h a hm am o cI cZ cJ σ τ f) H) (hD : va_D A0 (tp_wL h a hm am o cI cZ cJ σ τ f)) (hS : va_S A0 s.heap H locs) (i1 : vp_in (i + 1) L) (i2 : vp_in (i + 2) L) (i3 : vp_in (i + 3) L) (hl : lv_has ls 7 [(0, .ref b), (1, .ref h), (2, .ref hm), (3, .ref o), (4, .int i)])
    (kk : ∀ (σ' τ' : tp_St) (f' : Nat → Int64) (H' : Heap) (locs' : List Loc) (ls' : Array Slot), tp_Inv σ' → tp_Rel tp_noX σ' τ' → va_P D tp_CL (tp_wL h a hm am o cI cZ cJ σ' τ' f') H' → va_D A0 (tp_wL h a hm am o cI cZ cJ σ' τ' f') → va_S A0 s.heap H' locs' → lv_has ls' 7 [(0, .ref b), (1, .ref h), (2, .ref hm), (3, .ref o), (4, .int i)] → W p l e R s m args below meth c H' locs' (cells + 1) (slots + 6) Q (F0 m 865 ls' [])) : W p l e R s m args below meth c H locs cells slots Q (F0 m 809 ls []) := by
  have hx := S.1
  have hb := S.2.1
  have hTB := S.2.2.2.2
  refine lv_aload_n hx hb dL_law_809 rfl (lv_at hl 1 rfl) ?_
  refine lv_aload_n hx hb dL_law_810 rfl (lv_at hl 0 rfl) ?_
  refine lv_iload hx hb dL_law_811 (lv_at hl 4 rfl) ?_
  refine lv_iconst (v := 1) hx hb dL_law_813 (by decide) ?_
  refine lv_iadd hx hb dL_law_814 ?_
  refine va_sld hx hb hXs hbl hbA hS i1 dL_law_815 ?_
  refine lv_aload_n hx hb dL_law_816 rfl (lv_at hl 3 rfl) ?_
  obtain ⟨k, v, σ', v', τ', e1, e2, I', R', t0, hv, hk5⟩ := tp_count_sim hI hR (xs (i + 1).toNatClampNeg)
  refine tp_kSW (wr := tp_wM hm am cI cZ τ) (xs := [.ref h, .int (xs (i + 1).toNatClampNeg), .ref o]) (rest := []) (P := fun vv w' => ∃ f' : Nat → Int64, vv = some (.int (tp_nI (tp_mp1 k))) ∧ (k = 0 → f' 0 = v.toInt64) ∧ w' = (o, .inl (cJ, 1, .inr (.inl f'))) :: tp_wC h a cI cZ σ') S hK hX hP hD hS hA [6, 7, 8, 9, 10, 11, 12, 13, 14] [0, 1, 2, 3, 4, 5] rfl rfl rfl (by decide) (by decide) (by decide) (cL_count l hl0 D h a cI cZ cJ o _ σ f (xs (i + 1).toNatClampNeg) (k, v, σ') e1) (fun a st oc t z => by obtain ⟨f', z1, z2, z3, tp_z4⟩ := z; exact ⟨_, _, z1, ⟨f', rfl, z2, rfl⟩, z3, tp_z4⟩) (fun vv w' z => by obtain ⟨f', -, -, rfl⟩ := z; rfl) (vx_cwSW 3 hTB tp_gS_count rfl rfl rfl ⟨by decide, by decide, by decide +kernel⟩ ⟨Nat.le_trans (Nat.le_of_ble_eq_true rfl) rF, Nat.le_trans (Nat.le_of_ble_eq_true rfl) rL⟩) rfl hl.1 rfl (Nat.le_of_ble_eq_true rfl) dL_law_817 ⟨hc, hs⟩ (fun vv w' H locs z hP hD hS => ?_)
  obtain ⟨f', rfl, hv0, rfl⟩ := z
  have hP : va_P D tp_CL (tp_wL h a hm am o cI cZ cJ σ' τ f') H := hP
  have hD : va_D A0 (tp_wL h a hm am o cI cZ cJ σ' τ f') := hD
  refine W.eq (g2 := F0 m 820 ls [.int (tp_nI (tp_mp1 k))]) rfl ?_
  refine lv_istore hx hb dL_law_820 hl (by decide) rfl (fun ls hl => ?_)
  have hl : lv_has ls 7 [(5, .int (tp_nI (tp_mp1 k))), (0, .ref b), (1, .ref h), (2, .ref hm), (3, .ref o), (4, .int i)] := hl
  refine lv_aload_n hx hb dL_law_822 rfl (lv_at hl 3 rfl) ?_
  refine lv_aload_n hx hb dL_law_823 rfl (lv_at hl 1 rfl) ?_
  refine lv_iload hx hb dL_law_824 (lv_at hl 5 rfl) ?_
  refine lv_iconst (v := 1) hx hb dL_law_826 (by decide) ?_
  refine lv_iadd hx hb dL_law_827 ?_
  refine va_sld hx hb hXs hbl hbA hS i1 dL_law_828 ?_
  refine tp_kVw (v := (some (.int v'))) (w' := tp_wM hm am cI cZ τ') (wr := (o, .inl (cJ, 1, .inr (.inl f'))) :: tp_wC h a cI cZ σ') (xs := [.int (xs (i + 1).toNatClampNeg)]) (rest := []) S (hK.sub (tys' := [(cI, .int), (cZ, .boolean)]) [0, 1] rfl) hP hD hS hA [0, 1, 2, 3, 4, 5] [6, 7, 8, 9, 10, 11, 12, 13, 14] rfl rfl rfl (by decide) (by decide) (by decide) rfl rfl (cM_count l D hm am cI cZ _ τ (xs (i + 1).toNatClampNeg) (v', τ') e2) rfl (cwV 1 hTB tp_gL_M_count rfl rfl rfl ⟨rfl, by decide, by decide, by decide +kernel⟩ ⟨Nat.le_trans (Nat.le_of_ble_eq_true rfl) rF, Nat.le_trans (Nat.le_of_ble_eq_true rfl) rL⟩) rfl hl.1 rfl (Nat.le_of_ble_eq_true rfl) dL_law_829 ⟨hc, hs⟩ (fun H locs hP hD hS => ?_)
  have hP : va_P D tp_CL (tp_wL h a hm am o cI cZ cJ σ' τ' f') H := hP.sub [9, 10, 11, 12, 13, 14, 0, 1, 2, 3, 4, 5, 6, 7, 8] rfl
  have hD : va_D A0 (tp_wL h a hm am o cI cZ cJ σ' τ' f') := hD.sub [9, 10, 11, 12, 13, 14, 0, 1, 2, 3, 4, 5, 6, 7, 8] (by decide) rfl
  refine W.eq (g2 := F0 m 832 ls [.int v']) rfl ?_
  refine lv_istore hx hb dL_law_832 hl (by decide) rfl (fun ls hl => ?_)
  have hl : lv_has ls 7 [(6, .int v'), (5, .int (tp_nI (tp_mp1 k))), (0, .ref b), (1, .ref h), (2, .ref hm), (3, .ref o), (4, .int i)] := hl
  refine lv_aload_n hx hb dL_law_834 rfl (lv_at hl 4 rfl) ?_
  refine tp_kP (w := tp_wM hm am cI cZ τ') (r := τ' 0 0) (rest := []) S (hK.sub (tys' := [(cI, .int), (cZ, .boolean)]) [0, 1] rfl) (hP.sub [0, 1, 2, 3, 4, 5] rfl) (hD.sub (ws' := tp_wM hm am cI cZ τ') [0, 1, 2, 3, 4, 5] (by decide) rfl) rfl rfl (cM_thrown l D hm am cI cZ _ τ' (τ' 0 0) rfl) (cwV 0 hTB tp_gL_M_thrown rfl rfl rfl ⟨rfl, by decide, by decide, by decide +kernel⟩ ⟨Nat.le_trans (Nat.le_of_ble_eq_true rfl) rF, Nat.le_trans (Nat.le_of_ble_eq_true rfl) rL⟩) rfl hl.1 rfl (Nat.le_of_ble_eq_true rfl) dL_law_835 ⟨hc, hs⟩ ?_
  refine lv_iload hx hb dL_law_838 (lv_at hl 1 rfl) ?_
  refine lv_icmp_eq (tgt := 845) hx hb dL_law_840 (by decide) (fun _ => ?_) (fun z => absurd t0 z)
  refine lv_iload hx hb dL_law_845 (lv_at hl 1 rfl) ?_
  refine lv_if_ne (tgt := 862) hx hb dL_law_847 (by decide) (fun _ => ?_) (fun z => ?_)
  · refine lv_goto (tgt := 865) hx hb dL_law_862 (by decide) ?_
    exact kk (σ') (τ') (f') H locs ls I' R' hP hD hS (lv_sub hl [2, 3, 4, 5, 6] rfl)
  · have k0 : k = 0 := tp_mp1_z hk5 z
    refine lv_aload_n hx hb dL_law_850 rfl (lv_at hl 5 rfl) ?_
    refine lv_iconst (v := 0) hx hb dL_law_851 (by decide) ?_
    refine va_lald hx hb hK hP 6 2 rfl rfl tp_vin0 dL_law_852 ?_
    refine lv_iload hx hb dL_law_853 (lv_at hl 0 rfl) ?_
    refine lv_i2l (v := v'.toInt64) hx hb dL_law_855 rfl ?_
    refine W.lcmp hx hb dL_law_856 ?_
    refine lv_if_eq (tgt := 862) hx hb dL_law_857 (by decide) (fun _ => ?_) (fun z => absurd (tp_lcmp_z ((hv0 k0).trans (congrArg Int32.toInt64 (hv k0)))) z)
    refine lv_goto (tgt := 865) hx hb dL_law_862 (by decide) ?_
    exact kk (σ') (τ') (f') H locs ls I' R' hP hD hS (lv_sub hl [2, 3, 4, 5, 6] rfl)
