set_option maxHeartbeats 4000000 in
set_option maxRecDepth 100000 in
theorem cC_count (l : Launch) (hl0 : l.stackTraces = false) (D : va_G) (h : Nat) (a : Nat → Nat) (cI cZ : ClassId) (sz : Nat) (σ : tp_St) (x1 : Int32) (r : (Nat × Int32 × tp_St)) (hr : fC_count σ x1 = some r) : vx_Met l tp_yC_count (tp_wsT tp_yC_count tp_bC_count 2 (some .int)) { frames := 6, cells := 1, slots := 6, locals := 89 } (tp_PcX D [(cI, .int), (cZ, .boolean)] (tp_wC h a cI cZ σ) sz [.ref h, .int x1]) (tp_qTC D h a cI cZ r (va_A (tp_wC h a cI cZ σ) sz)) (tp_qXC [3] D h a cI cZ r (va_A (tp_wC h a cI cZ σ) sz)) 1 6 (va_A (tp_wC h a cI cZ σ) sz) := by
  refine vx_ofW (cc := tp_bC_count) (maxL := 2) (ret := (some .int)) (by decide) rfl ?_
  intro p e s m args below meth c s₁ B hml hnoh0 hv
  obtain ⟨rfl, hsz, hP, hK, hD0, hX⟩ := hv
  have hnoh : ∀ (x : ExceptionTableEntry), x ∈ c.exceptionTable.toList → False := hnoh0
  have hx := B.exec
  have hb := B.bytes
  have hrt := B.returns
  have hTB : ∀ w ∈ tp_TB, w.before _ s = true := fun w z => atoms_spec (ws := (tp_wsT tp_yC_count tp_bC_count 2 (some .int))) B.pre w (List.mem_cons_of_mem _ z)
  have hown : s.vm.findClass tp_RC = some m.cls := findClass_of_methodNamed B.named
  have hlocks := B.notSynchronized
  have S : CallFix p m c tp_bC_count 2 s _ tp_TB tp_RC := ⟨hx, hb, hml, hown, hTB⟩
  subst hsz
  have hD : va_D (va_A (tp_wC h a cI cZ σ) s.heap.size) (tp_wC h a cI cZ σ) := hD0.self
  have hA : ∀ q : Nat, s.heap.size ≤ q → va_A (tp_wC h a cI cZ σ) s.heap.size q := fun q z => Or.inr z
  have hS : va_S (va_A (tp_wC h a cI cZ σ) s.heap.size) s.heap s.heap [] := va_S.rf
  have hl := lv_entry ([.ref h, .int x1]) (n := 2) (Nat.le_of_ble_eq_true rfl)
  rw [lg_entry_eq]
  generalize (lg_sl ([.ref h, .int x1]) ++ List.replicate (2 - (lg_sl ([.ref h, .int x1])).length) Slot.unset).toArray = ls at hl ⊢
  have hl : lv_has ls 2 [(0, .ref h), (1, .int x1)] := hl
  rw [fC_count] at hr
  refine lv_iload_n hx hb dC_count_0 rfl (lv_at hl 1 rfl) ?_
  by_cases hs1 : x1 = 0
  · replace hr := (if_pos hs1).symm.trans hr
    refine lv_tableIn (x := x1) (tgt := 44) hx hb dC_count_1 (by rw [hs1]; decide) (by rw [hs1]; decide) (by rw [hs1]; rfl) (by decide) ?_
    refine lv_aload_n hx hb dC_count_44 rfl (lv_at hl 0 rfl) ?_
    obtain ⟨q2, hq3, hr⟩ := Option.bind_eq_some_iff.mp hr
    refine tp_kP (rest := []) S hK hP hD rfl rfl (cC_disksThere l D h a cI cZ _ σ  q2 hq3) (cwV 0 hTB tp_gC_disksThere rfl rfl rfl ⟨rfl, by decide, by decide, by decide +kernel⟩ ⟨Nat.le_of_ble_eq_true rfl, Nat.le_of_ble_eq_true rfl⟩) rfl hl.1 rfl (Nat.le_of_ble_eq_true rfl) dC_count_45 ⟨Nat.zero_le _, Nat.zero_le _⟩ ?_
    obtain rfl := Option.some.inj hr
    refine vx_ret (W.widen (k := 1) (n := 6) (Nat.zero_le _) (Nat.zero_le _) ?_)
    exact W.iret (v := q2) hx hb hrt (fun t ht _ => ⟨⟨q2, σ, rfl, rfl, by show va_P D tp_CL _ t.heap; rw [ht]; exact hP⟩, hS.F ht⟩) hS.2.2 dC_count_48 hlocks
  replace hr := (if_neg hs1).symm.trans hr
  by_cases hs4 : x1 = 1
  · replace hr := (if_pos hs4).symm.trans hr
    refine lv_tableIn (x := x1) (tgt := 49) hx hb dC_count_1 (by rw [hs4]; decide) (by rw [hs4]; decide) (by rw [hs4]; rfl) (by decide) ?_
    refine lv_aload_n hx hb dC_count_49 rfl (lv_at hl 0 rfl) ?_
    obtain ⟨q5, hq6, hr⟩ := Option.bind_eq_some_iff.mp hr
    refine tp_kP (rest := []) S hK hP hD rfl rfl (cC_allChunks l D h a cI cZ _ σ  q5 hq6) (cwV 0 hTB tp_gC_allChunks rfl rfl rfl ⟨rfl, by decide, by decide, by decide +kernel⟩ ⟨Nat.le_of_ble_eq_true rfl, Nat.le_of_ble_eq_true rfl⟩) rfl hl.1 rfl (Nat.le_of_ble_eq_true rfl) dC_count_50 ⟨Nat.zero_le _, Nat.zero_le _⟩ ?_
    obtain rfl := Option.some.inj hr
    refine vx_ret (W.widen (k := 1) (n := 6) (Nat.zero_le _) (Nat.zero_le _) ?_)
    exact W.iret (v := q5) hx hb hrt (fun t ht _ => ⟨⟨q5, σ, rfl, rfl, by show va_P D tp_CL _ t.heap; rw [ht]; exact hP⟩, hS.F ht⟩) hS.2.2 dC_count_53 hlocks
  replace hr := (if_neg hs4).symm.trans hr
  by_cases hs7 : x1 = 2
  · replace hr := (if_pos hs7).symm.trans hr
    refine lv_tableIn (x := x1) (tgt := 54) hx hb dC_count_1 (by rw [hs7]; decide) (by rw [hs7]; decide) (by rw [hs7]; rfl) (by decide) ?_
    refine lv_aload_n hx hb dC_count_54 rfl (lv_at hl 0 rfl) ?_
    refine lv_iconst (v := (-1)) hx hb dC_count_55 (by decide) ?_
    obtain ⟨q8, hq9, hr⟩ := Option.bind_eq_some_iff.mp hr
    refine tp_kP (rest := []) S hK hP hD rfl rfl (cC_capacityWithout l D h a cI cZ _ σ (-1) q8 hq9) (cwV 1 hTB tp_gC_capacityWithout rfl rfl rfl ⟨rfl, by decide, by decide, by decide +kernel⟩ ⟨Nat.le_of_ble_eq_true rfl, Nat.le_of_ble_eq_true rfl⟩) rfl hl.1 rfl (Nat.le_of_ble_eq_true rfl) dC_count_56 ⟨Nat.zero_le _, Nat.zero_le _⟩ ?_
    obtain rfl := Option.some.inj hr
    refine vx_ret (W.widen (k := 1) (n := 6) (Nat.zero_le _) (Nat.zero_le _) ?_)
    exact W.iret (v := q8) hx hb hrt (fun t ht _ => ⟨⟨q8, σ, rfl, rfl, by show va_P D tp_CL _ t.heap; rw [ht]; exact hP⟩, hS.F ht⟩) hS.2.2 dC_count_59 hlocks
  replace hr := (if_neg hs7).symm.trans hr
  by_cases hs10 : x1 = 3
  · replace hr := (if_pos hs10).symm.trans hr
    refine lv_tableIn (x := x1) (tgt := 60) hx hb dC_count_1 (by rw [hs10]; decide) (by rw [hs10]; decide) (by rw [hs10]; rfl) (by decide) ?_
    refine lv_aload_n hx hb dC_count_60 rfl (lv_at hl 0 rfl) ?_
    refine lv_iconst (v := 1) hx hb dC_count_61 (by decide) ?_
    obtain ⟨q11, hq12, hr⟩ := Option.bind_eq_some_iff.mp hr
    refine tp_kP (rest := []) S hK hP hD rfl rfl (cC_chunksWith l D h a cI cZ _ σ 1 q11 hq12) (cwV 1 hTB tp_gC_chunksWith rfl rfl rfl ⟨rfl, by decide, by decide, by decide +kernel⟩ ⟨Nat.le_of_ble_eq_true rfl, Nat.le_of_ble_eq_true rfl⟩) rfl hl.1 rfl (Nat.le_of_ble_eq_true rfl) dC_count_62 ⟨Nat.zero_le _, Nat.zero_le _⟩ ?_
    obtain rfl := Option.some.inj hr
    refine vx_ret (W.widen (k := 1) (n := 6) (Nat.zero_le _) (Nat.zero_le _) ?_)
    exact W.iret (v := q11) hx hb hrt (fun t ht _ => ⟨⟨q11, σ, rfl, rfl, by show va_P D tp_CL _ t.heap; rw [ht]; exact hP⟩, hS.F ht⟩) hS.2.2 dC_count_65 hlocks
  replace hr := (if_neg hs10).symm.trans hr
  by_cases hs13 : x1 = 4
  · replace hr := (if_pos hs13).symm.trans hr
    refine lv_tableIn (x := x1) (tgt := 66) hx hb dC_count_1 (by rw [hs13]; decide) (by rw [hs13]; decide) (by rw [hs13]; rfl) (by decide) ?_
    refine lv_aload_n hx hb dC_count_66 rfl (lv_at hl 0 rfl) ?_
    refine lv_iconst (v := 0) hx hb dC_count_67 (by decide) ?_
    obtain ⟨q14, hq15, hr⟩ := Option.bind_eq_some_iff.mp hr
    refine tp_kP (rest := []) S hK hP hD rfl rfl (cC_chunksWith l D h a cI cZ _ σ 0 q14 hq15) (cwV 1 hTB tp_gC_chunksWith rfl rfl rfl ⟨rfl, by decide, by decide, by decide +kernel⟩ ⟨Nat.le_of_ble_eq_true rfl, Nat.le_of_ble_eq_true rfl⟩) rfl hl.1 rfl (Nat.le_of_ble_eq_true rfl) dC_count_68 ⟨Nat.zero_le _, Nat.zero_le _⟩ ?_
    obtain rfl := Option.some.inj hr
    refine vx_ret (W.widen (k := 1) (n := 6) (Nat.zero_le _) (Nat.zero_le _) ?_)
    exact W.iret (v := q14) hx hb hrt (fun t ht _ => ⟨⟨q14, σ, rfl, rfl, by show va_P D tp_CL _ t.heap; rw [ht]; exact hP⟩, hS.F ht⟩) hS.2.2 dC_count_71 hlocks
  replace hr := (if_neg hs13).symm.trans hr
  by_cases hs16 : x1 = 5
  · replace hr := (if_pos hs16).symm.trans hr
    refine lv_tableIn (x := x1) (tgt := 72) hx hb dC_count_1 (by rw [hs16]; decide) (by rw [hs16]; decide) (by rw [hs16]; rfl) (by decide) ?_
    refine lv_aload_n hx hb dC_count_72 rfl (lv_at hl 0 rfl) ?_
    obtain ⟨q17, hq18, hr⟩ := Option.bind_eq_some_iff.mp hr
    refine tp_kP (rest := []) S hK hP hD rfl rfl (cC_copiesOnLeaving l D h a cI cZ _ σ  q17 hq18) (cwV 0 hTB tp_gC_copiesOnLeaving rfl rfl rfl ⟨rfl, by decide, by decide, by decide +kernel⟩ ⟨Nat.le_of_ble_eq_true rfl, Nat.le_of_ble_eq_true rfl⟩) rfl hl.1 rfl (Nat.le_of_ble_eq_true rfl) dC_count_73 ⟨Nat.zero_le _, Nat.zero_le _⟩ ?_
    obtain rfl := Option.some.inj hr
    refine vx_ret (W.widen (k := 1) (n := 6) (Nat.zero_le _) (Nat.zero_le _) ?_)
    exact W.iret (v := q17) hx hb hrt (fun t ht _ => ⟨⟨q17, σ, rfl, rfl, by show va_P D tp_CL _ t.heap; rw [ht]; exact hP⟩, hS.F ht⟩) hS.2.2 dC_count_76 hlocks
  replace hr := (if_neg hs16).symm.trans hr
  by_cases hs19 : x1 = 6
  · replace hr := (if_pos hs19).symm.trans hr
    refine lv_tableIn (x := x1) (tgt := 77) hx hb dC_count_1 (by rw [hs19]; decide) (by rw [hs19]; decide) (by rw [hs19]; rfl) (by decide) ?_
    refine lv_aload_n hx hb dC_count_77 rfl (lv_at hl 0 rfl) ?_
    refine tp_gtC S hK hP 7 (by decide) (v := .int (σ 7 0)) tp_mC_f7 rfl dC_count_78 ?_
    obtain rfl := Option.some.inj hr
    refine vx_ret (W.widen (k := 1) (n := 6) (Nat.zero_le _) (Nat.zero_le _) ?_)
    exact W.iret (v := (σ 7 0)) hx hb hrt (fun t ht _ => ⟨⟨(σ 7 0), σ, rfl, rfl, by show va_P D tp_CL _ t.heap; rw [ht]; exact hP⟩, hS.F ht⟩) hS.2.2 dC_count_81 hlocks
  replace hr := (if_neg hs19).symm.trans hr
  refine lv_tableOut (x := x1) (tgt := 82) hx hb dC_count_1 (tp_tsw6 hs1 hs4 hs7 hs10 hs13 hs16 hs19) (by decide) ?_
  obtain rfl := Option.some.inj hr
  exact tp_thrC (k := 3) hx hb hl0 hown (by decide) tp_xC_3 hTB hX hS hP (hl.1.trans hml.symm) dC_count_82 dC_count_85 dC_count_86 dC_count_89 hnoh (Nat.le_of_ble_eq_true rfl) (Nat.le_of_ble_eq_true rfl) (Nat.le_of_ble_eq_true rfl) (Nat.le_of_ble_eq_true rfl) hlocks
