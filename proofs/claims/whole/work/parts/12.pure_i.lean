theorem tp_no_oN {σ : tp_St} {c : Nat} (h : tp_VV (σ 4 c) (σ 5 c)) (hn : ∀ e, e < 12 → tp_oN σ c e = false) : σ 4 c = -1 ∧ σ 5 c = -1 := by
  rcases h with h | ⟨a, ha, h1, h2⟩ | ⟨a, b, hab, hb, h1, h2⟩
  · exact h
  · have := hn a ha
    rw [tp_oN, h1, decide_eq_true rfl] at this; cases this
  · have := hn a (by omega)
    rw [tp_oN, h1, decide_eq_true rfl] at this; cases this
theorem tp_Rel.freed {X : Nat → Prop} {σ τ : tp_St} {c : Nat} {m : Int32} (R : tp_Rel X σ (tp_up τ 4 c m)) (h4 : σ 4 c = -1) (h5 : σ 5 c = -1) : tp_Rel X (tp_up σ 3 c 0) (tp_up (tp_up τ 3 c 0) 4 c 0) := by
  refine ⟨R.1, fun k hk => ?_, R.2.2⟩
  show (if k = c then 0 else τ 3 k) = (if k = c then 0 else σ 3 k) ∧ (if k = c then 0 else τ 4 k) = tp_mK (σ 4 k) (σ 5 k)
  have k3 : τ 3 k = σ 3 k := R.th hk
  have k4 : (if k = c then m else τ 4 k) = tp_mK (σ 4 k) (σ 5 k) := R.cp hk
  by_cases z : k = c
  · rw [if_pos z, if_pos z, if_pos z, z, h4, h5]; exact ⟨rfl, tp_mk_z.symm⟩
  · rw [if_neg z] at k4
    rw [if_neg z, if_neg z, if_neg z]; exact ⟨k3, k4⟩
theorem tp_Inv.freed {σ : tp_St} {c : Nat} (I : tp_Inv σ) (h4 : σ 4 c = -1) (h5 : σ 5 c = -1) : tp_Inv (tp_up σ 3 c 0) := by
  refine ⟨I.1, I.2.1, I.2.2.1, fun k hk => ?_⟩
  show ((if k = c then 0 else σ 3 k) = 0 ∧ σ 4 k = -1 ∧ σ 5 k = -1) ∨ ((if k = c then 0 else σ 3 k) = 1 ∧ tp_VV (σ 4 k) (σ 5 k))
  by_cases z : k = c
  · rw [if_pos z, z]; exact .inl ⟨rfl, h4, h5⟩
  · rw [if_neg z]; exact I.2.2.2 k hk
abbrev tp_anyX : Nat → Prop := fun _ => True
theorem tp_free_sim {σ τ : tp_St} (I : tp_Inv σ) (R : tp_Rel tp_noX σ τ) (x : Int32) : tp_Ok (fC_free σ x) (fM_free τ x) tp_mp1 := by
  have hno : ∀ (b1 : fC_isChunk σ x = some 0) (b2 : fM_isChunk τ x = some 0), tp_Ok (fC_free σ x) (fM_free τ x) tp_mp1 := fun b1 b2 =>
    ⟨1, 0, σ, 0, tp_up τ 0 0 1, by rw [fC_free, b1]; rfl, by rw [fM_free, b2]; rfl, I, R.thrown 1, rfl, fun z => by omega, by omega⟩
  rcases tp_int_cases 400 (by omega) x with ⟨c, hc, e⟩ | z | z
  · by_cases h3 : σ 3 c = 0
    · exact hno (by rw [e, tp_C_isChunk hc, h3]; rfl) (by rw [e, tp_M_isChunk R hc, h3]; rfl)
    · have R0 : tp_Rel tp_anyX σ (tp_up τ 0 0 0) := (R.thrown 0).mono (fun _ _ z => z.elim)
      have main : ∃ σ', fC_free σ (tp_nI c) = some (0, tp_nI (tp_nc σ c), σ') ∧ tp_Inv σ' ∧ tp_Rel tp_anyX σ' (tp_up (tp_up (tp_up τ 0 0 0) 3 c 0) 4 c 0) := by
        rw [fC_free, tp_C_isChunk hc, Option.bind_some, decide_eq_true h3, tp_if_bI, if_pos rfl, tp_C_copies hc, Option.bind_some, if_neg (tp_b4 hc), tp_t4 hc, tp_vn0]
        rcases I.vv hc with ⟨h4, h5⟩ | ⟨a, ha, h4, h5⟩ | ⟨a, b, hab, hb, h4, h5⟩
        · rw [if_pos h5, if_pos h4]
          exact ⟨_, rfl, I.freed h4 h5, tp_Rel.freed (m := (tp_up τ 0 0 0) 4 c) (by rw [tp_up_self]; exact R0) h4 h5⟩
        · have oa : tp_oN σ c a = true := by rw [tp_oN, h4, decide_eq_true rfl]; rfl
          obtain ⟨σ1, r1, I1, o1, _, _, _, _, R1⟩ := tp_drop_spec I hc ha oa
          have hn := tp_no_oN (I1.vv hc) (fun e he => by
            rw [o1 c e he, tp_oN_1 h4 h5 ha he, decide_eq_true (rfl : c = c), Bool.true_and]
            cases decide (e = a) <;> rfl)
          rw [if_pos h5, if_neg (by rw [h4]; exact tp_nI_m (by omega)), h4, r1, Option.bind_some]
          exact ⟨_, rfl, I1.freed hn.1 hn.2, (R1 tp_anyX _ R0 (fun _ => trivial)).freed hn.1 hn.2⟩
        · have hba : ¬ tp_nI a = tp_nI b := fun z => absurd ((tp_nI_eq (by omega) (by omega)).mp z) (by omega)
          have ob : tp_oN σ c b = true := by rw [tp_oN, h5, decide_eq_true (rfl : tp_nI b = tp_nI b), Bool.or_true]
          obtain ⟨σ1, r1, I1, o1, ⟨_, _, _, s4⟩, _, _, _, R1⟩ := tp_drop_spec I hc hb ob
          have e4 : σ1 4 c = tp_nI a := by rw [s4, tp_ot, h4, if_neg hba]
          have hoe : ∀ e, e < 12 → tp_oN σ1 c e = decide (e = a) := fun e he => by
            rw [o1 c e he, tp_oN, h4, h5, decide_eq_true (rfl : c = c), Bool.true_and]
            by_cases z : e = b
            · rw [decide_eq_true z, decide_eq_false (show ¬ e = a by omega)]; exact Bool.and_false _
            · rw [decide_eq_false z, Bool.not_false, Bool.and_true, decide_eq_false (fun w : tp_nI b = tp_nI e => z ((tp_nI_eq (by omega) (by omega)).mp w).symm), Bool.or_false]
              exact decide_eq_decide.mpr ⟨fun w => ((tp_nI_eq (by omega) (by omega)).mp w).symm, fun w => by rw [w]⟩
          have oa : tp_oN σ1 c a = true := by rw [hoe a (by omega)]; exact decide_eq_true rfl
          obtain ⟨σ2, r2, I2, o2, _, _, _, _, R2⟩ := tp_drop_spec I1 hc (show a < 12 by omega) oa
          have hn := tp_no_oN (I2.vv hc) (fun e he => by
            rw [o2 c e he, hoe e he, decide_eq_true (rfl : c = c), Bool.true_and]
            cases decide (e = a) <;> rfl)
          have k := R2 tp_anyX _ (R1 tp_anyX _ R0 (fun _ => trivial)) (fun _ => trivial)
          rw [tp_up_up] at k
          rw [if_neg (by rw [h5]; exact tp_nI_m (by omega)), h5, r1, Option.bind_some, if_neg (by rw [e4]; exact tp_nI_m (by omega)), e4, r2, Option.bind_some]
          exact ⟨_, rfl, I2.freed hn.1 hn.2, k.freed hn.1 hn.2⟩
      obtain ⟨σ', a1, I1, R1⟩ := main
      obtain ⟨τ', t1, t2, t3⟩ := tp_M_tidy I1 R1
      rw [e]
      refine ⟨0, tp_nI (tp_nc σ c), σ', tp_nI (tp_nc σ c), τ', a1, ?_, I1, t2, by rw [t3]; rfl, fun _ => rfl, by omega⟩
      rw [fM_free, tp_M_isChunk R hc, Option.bind_some, decide_eq_true h3, tp_if_bI, if_pos rfl, tp_M_howMany I (R.thrown 0) hc, Option.bind_some, if_neg (tp_b4 hc), tp_t4 hc, tp_vn0, t1]; rfl
  · exact hno (tp_C_isChunk_o (.inl z)) (tp_M_isChunk_o (.inl z))
  · exact hno (tp_C_isChunk_o (.inr z)) (tp_M_isChunk_o (.inr z))
def tp_pz (x : Int32) (i : Nat) : Int32 := if x ≠ -1 ∧ x.toNatClampNeg < i then x else -1
theorem tp_pz_m (i : Nat) : tp_pz (-1) i = -1 := if_neg (fun z => z.1 rfl)
theorem tp_pz_n {a : Nat} (ha : a < 12) (i : Nat) : tp_pz (tp_nI a) i = if a < i then tp_nI a else -1 := by
  rw [tp_pz, tp_td ha]
  by_cases z : a < i
  · rw [if_pos z, if_pos ⟨tp_nI_m (by omega), z⟩]
  · rw [if_neg z, if_neg (fun w => z w.2)]
theorem tp_pz_12 {x : Int32} (h : tp_DD x) : tp_pz x 12 = x := by
  rcases h with h | ⟨a, ha, h⟩
  · rw [h, tp_pz_m]
  · rw [h, tp_pz_n ha, if_pos ha]
theorem tp_M_place {σ τ : tp_St} (I : tp_Inv σ) (R : tp_Rel tp_noX σ τ) {c : Nat} (hc : c < 400) (x : Int32) : fM_place_L34 (tp_nI c) x 13 (-1) (-1) 0 τ = if x = 0 then some (σ 4 c, τ) else some (σ 5 c, τ) := by
  have h := tp_acc_loop0 (F := fun n (b : Int32 × Int32) y => fM_place_L34 (tp_nI c) x n b.1 b.2 y τ) (N := 12) (acc := fun i => (tp_pz (σ 4 c) i, tp_pz (σ 5 c) i)) (fin := if x = 0 then some (σ 4 c, τ) else some (σ 5 c, τ)) (by
    show fM_place_L34 (tp_nI c) x 1 (tp_pz (σ 4 c) 12) (tp_pz (σ 5 c) 12) (tp_nI 12) τ = _
    rw [fM_place_L34, if_pos (by decide), tp_pz_12 (I.vv hc).l, tp_pz_12 (I.vv hc).g]) (fun n i hi => by
    show fM_place_L34 (tp_nI c) x (n + 1) (tp_pz (σ 4 c) i) (tp_pz (σ 5 c) i) (tp_nI i) τ = fM_place_L34 (tp_nI c) x n (tp_pz (σ 4 c) (i + 1)) (tp_pz (σ 5 c) (i + 1)) (tp_nI i + 1) τ
    have hne : decide ((-1 : Int32) = tp_nI i) = false := decide_eq_false (tp_nI_m' (by omega))
    have hm : ¬ (0 : Int32) ≤ -1 := by decide
    rw [fM_place_L34, if_neg (tp_gd hi), tp_M_isOn I R hc hi, Option.bind_some, tp_if_bI]
    rcases I.vv hc with ⟨h4, h5⟩ | ⟨a, ha, h4, h5⟩ | ⟨a, b, hab, hb, h4, h5⟩
    · rw [tp_oN, h4, h5, hne, tp_pz_m, tp_pz_m]; rfl
    · rw [tp_oN_1 h4 h5 ha hi, h4, h5, tp_pz_m, tp_pz_m, tp_pz_n ha, tp_pz_n ha]
      by_cases z : i = a
      · rw [decide_eq_true z, if_pos rfl, if_neg (show ¬ a < i by omega), if_neg hm, if_neg hm, if_pos (by omega), z]
      · rw [decide_eq_false z, if_neg (by decide)]
        by_cases w : a < i
        · rw [if_pos w, if_pos (by omega)]
        · rw [if_neg w, if_neg (by omega)]
    · have ha : a < 12 := by omega
      have o1 : tp_oN σ c i = (decide (i = a) || decide (i = b)) := by
        rw [tp_oN, h4, h5, show decide (tp_nI a = tp_nI i) = decide (i = a) from decide_eq_decide.mpr ⟨fun w => ((tp_nI_eq (by omega) (by omega)).mp w).symm, fun w => by rw [w]⟩, show decide (tp_nI b = tp_nI i) = decide (i = b) from decide_eq_decide.mpr ⟨fun w => ((tp_nI_eq (by omega) (by omega)).mp w).symm, fun w => by rw [w]⟩]
      rw [o1, h4, h5, tp_pz_n ha, tp_pz_n ha, tp_pz_n hb, tp_pz_n hb]
      by_cases z : i = a
      · rw [decide_eq_true z, Bool.true_or, if_pos rfl, if_neg (show ¬ a < i by omega), if_neg hm, if_neg hm, if_neg (show ¬ b < i by omega), if_neg (show ¬ b < i + 1 by omega), if_pos (show a < i + 1 by omega), z]
      · rw [decide_eq_false z, Bool.false_or]
        by_cases w : i = b
        · have p : 0 ≤ tp_nI a := Int32.not_lt.mp (tp_nI_nn (by omega))
          rw [decide_eq_true w, if_pos rfl, if_pos (show a < i by omega), if_pos p, if_pos p, if_pos (show a < i + 1 by omega), if_pos (show b < i + 1 by omega), w]
        · rw [decide_eq_false w, if_neg (by decide)]
          have k1 : (if a < i then tp_nI a else -1) = (if a < i + 1 then tp_nI a else -1) := by
            by_cases v : a < i
            · rw [if_pos v, if_pos (by omega)]
            · rw [if_neg v, if_neg (by omega)]
          have k2 : (if b < i then tp_nI b else -1) = (if b < i + 1 then tp_nI b else -1) := by
            by_cases v : b < i
            · rw [if_pos v, if_pos (by omega)]
            · rw [if_neg v, if_neg (by omega)]
          rw [k1, k2])
  have e1 : tp_pz (σ 4 c) 0 = -1 := by rw [tp_pz, if_neg (fun z => absurd z.2 (by omega))]
  have e2 : tp_pz (σ 5 c) 0 = -1 := by rw [tp_pz, if_neg (fun z => absurd z.2 (by omega))]
  have h' : fM_place_L34 (tp_nI c) x 13 (tp_pz (σ 4 c) 0) (tp_pz (σ 5 c) 0) 0 τ = _ := h
  rw [e1, e2] at h'
  exact h'
theorem tp_place_sim {σ τ : tp_St} (I : tp_Inv σ) (R : tp_Rel tp_noX σ τ) (x y : Int32) : tp_Ok (fC_place σ x y) (fM_place τ x y) tp_mp1 := by
  have hno : ∀ (b1 : fC_isChunk σ x = some 0) (b2 : fM_isChunk τ x = some 0), tp_Ok (fC_place σ x y) (fM_place τ x y) tp_mp1 := fun b1 b2 =>
    ⟨1, 0, σ, 0, tp_up τ 0 0 1, by rw [fC_place, b1]; rfl, by rw [fM_place, b2]; rfl, I, R.thrown 1, rfl, fun z => by omega, by omega⟩
  rcases tp_int_cases 400 (by omega) x with ⟨c, hc, e⟩ | z | z
  · by_cases h3 : σ 3 c = 0
    · exact hno (by rw [e, tp_C_isChunk hc, h3]; rfl) (by rw [e, tp_M_isChunk R hc, h3]; rfl)
    · rw [fC_place, fM_place, e, tp_C_isChunk hc, tp_M_isChunk R hc, Option.bind_some, Option.bind_some, decide_eq_true h3, tp_if_bI, tp_if_bI, if_pos rfl, if_pos rfl, if_neg (tp_b4 hc), if_neg (tp_b4 hc), tp_t4 hc, tp_M_place I (R.thrown 0) hc]
      by_cases w : y = 0
      · rw [if_pos w, if_pos w]; exact ⟨0, _, σ, _, tp_up τ 0 0 0, rfl, rfl, I, R.thrown 0, rfl, fun _ => rfl, by omega⟩
      · rw [if_neg w, if_neg w]; exact ⟨0, _, σ, _, tp_up τ 0 0 0, rfl, rfl, I, R.thrown 0, rfl, fun _ => rfl, by omega⟩
  · exact hno (tp_C_isChunk_o (.inl z)) (tp_M_isChunk_o (.inl z))
  · exact hno (tp_C_isChunk_o (.inr z)) (tp_M_isChunk_o (.inr z))
theorem tp_C_lco {σ : tp_St} (d : Nat) : fC_leastChunkOn σ (tp_nI d) = some (tp_enc (tp_findF (fun c => tp_oN σ c d) 400 0)) := by
  have h := tp_find_loop0 (F := fun n x => fC_leastChunkOn_L2 σ (tp_nI d) n x) (N := 400) (p := fun c => tp_oN σ c d) (hit := fun j => some (tp_nI j)) (miss := some (-1)) (by
    show fC_leastChunkOn_L2 σ (tp_nI d) 1 (tp_nI 400) = _
    rw [fC_leastChunkOn_L2, if_pos (by decide)]) (fun n i hi => by
    show fC_leastChunkOn_L2 σ (tp_nI d) (n + 1) (tp_nI i) = _
    rw [fC_leastChunkOn_L2, if_neg (tp_g4 hi), tp_C_isOn' hi d, Option.bind_some, tp_if_bI])
  rw [fC_leastChunkOn]
  refine Eq.trans h ?_
  cases tp_findF (fun c => tp_oN σ c d) 400 0 <;> rfl
theorem tp_M_lco {σ τ : tp_St} (I : tp_Inv σ) (R : tp_Rel tp_noX σ τ) {d : Nat} (hd : d < 12) : fM_about_L87 (tp_nI d) 401 0 τ = some (tp_enc (tp_findF (fun c => tp_oN σ c d) 400 0), τ) := by
  have h := tp_find_loop0 (F := fun n x => fM_about_L87 (tp_nI d) n x τ) (N := 400) (p := fun c => tp_oN σ c d) (hit := fun j => some (tp_nI j, τ)) (miss := some (-1, τ)) (by
    show fM_about_L87 (tp_nI d) 1 (tp_nI 400) τ = _
    rw [fM_about_L87, if_pos (by decide)]) (fun n i hi => by
    show fM_about_L87 (tp_nI d) (n + 1) (tp_nI i) τ = _
    rw [fM_about_L87, if_neg (tp_g4 hi), tp_M_isOn I R hi hd, Option.bind_some, tp_if_bI])
  refine Eq.trans h ?_
  cases tp_findF (fun c => tp_oN σ c d) 400 0 <;> rfl
theorem tp_about_sim {σ τ : tp_St} (I : tp_Inv σ) (R : tp_Rel tp_noX σ τ) (x y : Int32) : tp_Ok (fC_about σ x y) (fM_about τ x y) tp_mpA := by
  have hno : ∀ (b1 : fC_isThere σ x = some 0) (b2 : fM_isDisk τ x = some 0), tp_Ok (fC_about σ x y) (fM_about τ x y) tp_mpA := fun b1 b2 =>
    ⟨1, 0, σ, 0, tp_up τ 0 0 1, by rw [fC_about, b1]; rfl, by rw [fM_about, b2]; rfl, I, R.thrown 1, rfl, fun z => by omega, by omega⟩
  rcases tp_int_cases 12 (by omega) x with ⟨d, hd, e⟩ | z | z
  · cases ht : tp_th σ d with
    | false => exact hno (by rw [e, tp_C_isThere hd, ht]; rfl) (by rw [e, tp_M_isDisk R hd, ht]; rfl)
    | true =>
      have h0 : 0 < σ 0 d := of_decide_eq_true ht
      have R0 := R.thrown 0
      have no3 : tp_Ok (some (3, 0, σ)) (some (0, tp_up τ 0 0 2)) tp_mpA := ⟨3, 0, σ, 0, tp_up τ 0 0 2, rfl, rfl, I, R.thrown 2, rfl, fun z => by omega, by omega⟩
      have yes : ∀ v : Int32, tp_Ok (some (0, v, σ)) (some (v, tp_up τ 0 0 0)) tp_mpA := fun v => ⟨0, v, σ, v, tp_up τ 0 0 0, rfl, rfl, I, R0, rfl, fun _ => rfl, by omega⟩
      rw [fC_about, fM_about, e, tp_C_isThere hd, tp_M_isDisk R hd, ht, Option.bind_some, Option.bind_some, tp_if_bI, tp_if_bI, if_pos rfl, if_pos rfl, if_neg (tp_bd hd), if_neg (tp_bd hd), if_neg (tp_bd hd), if_neg (tp_bd hd), tp_td hd, tp_C_free hd, tp_M_freeOn I R0 hd, tp_C_lco d, tp_M_lco I R0 hd]
      simp only [Option.bind_some]
      rcases tp_int_cases 4 (by omega) y with ⟨k, hk, ey⟩ | z | z
      · rcases (show k = 0 ∨ k = 1 ∨ k = 2 ∨ k = 3 from by omega) with k0 | k0 | k0 | k0
        · have e1 : y = 0 := by rw [ey, k0]; rfl
          subst e1
          rw [if_pos rfl, if_neg (by decide), if_pos (by decide), if_neg (by decide), if_pos rfl]
          have := yes (σ 0 d)
          rw [← R.pl hd] at this ⊢
          exact this
        · have e1 : y = 1 := by rw [ey, k0]; rfl
          subst e1
          rw [if_neg (by decide), if_pos rfl, if_neg (by decide), if_pos (by decide), if_neg (by decide), if_neg (by decide), if_pos rfl]
          exact yes _
        · have e1 : y = 2 := by rw [ey, k0]; rfl
          subst e1
          rw [if_neg (show ¬ (2 : Int32) = 0 by decide), if_neg (show ¬ (2 : Int32) = 1 by decide), if_pos (show (2 : Int32) = 2 from rfl), if_neg (show ¬ (2 : Int32) < 0 by decide), if_pos (show (2 : Int32) ≤ 3 by decide), if_neg (show ¬ (3 : Int32) ≤ 2 by decide), if_neg (show ¬ (2 : Int32) = 0 by decide), if_neg (show ¬ (2 : Int32) = 1 by decide)]
          show tp_Ok (if σ 2 d = 0 then _ else _) (if τ 2 d = 0 then _ else _) tp_mpA
          rw [(R.1 d hd).2 h0]
          by_cases w : σ 2 d = 0
          · rw [if_pos w, if_pos w]; exact yes 0
          · rw [if_neg w, if_neg w]; exact yes 1
        · have e1 : y = 3 := by rw [ey, k0]; rfl
          subst e1
          rw [if_neg (by decide), if_neg (by decide), if_neg (by decide), if_pos rfl, if_neg (by decide), if_pos (by decide), if_pos (by decide)]
          exact yes _
      · rw [if_neg (fun w => by rw [w] at z; exact absurd z (by decide)), if_neg (fun w => by rw [w] at z; exact absurd z (by decide)), if_neg (fun w => by rw [w] at z; exact absurd z (by decide)), if_neg (fun w => by rw [w] at z; exact absurd z (by decide)), if_pos z]
        exact no3
      · have z3 : ¬ y ≤ 3 := fun w => absurd (Int32.le_trans z w) (by decide)
        have z0 : ¬ y < 0 := fun w => absurd (Int32.lt_of_le_of_lt z w) (by decide)
        rw [if_neg (fun w => by rw [w] at z; exact absurd z (by decide)), if_neg (fun w => by rw [w] at z; exact absurd z (by decide)), if_neg (fun w => by rw [w] at z; exact absurd z (by decide)), if_neg (fun w => by rw [w] at z; exact absurd z (by decide)), if_neg z0, if_neg z3]
        exact no3
  · exact hno (tp_C_isThere_o (.inl z)) (tp_M_isDisk_o (.inl z))
  · exact hno (tp_C_isThere_o (.inr z)) (tp_M_isDisk_o (.inr z))
theorem tp_count_sim {σ τ : tp_St} (I : tp_Inv σ) (R : tp_Rel tp_noX σ τ) (x : Int32) : tp_Ok (fC_count σ x) (fM_count τ x) tp_mp1 := by
  have R0 := R.thrown 0
  have yes : ∀ v : Int32, tp_Ok (some (0, v, σ)) (some (v, tp_up τ 0 0 0)) tp_mp1 := fun v => ⟨0, v, σ, v, tp_up τ 0 0 0, rfl, rfl, I, R0, rfl, fun _ => rfl, by omega⟩
  have no : tp_Ok (some (3, 0, σ)) (some (0, tp_up τ 0 0 1)) tp_mp1 := ⟨3, 0, σ, 0, tp_up τ 0 0 1, rfl, rfl, I, R.thrown 1, rfl, fun z => by omega, by omega⟩
  have q1 : fC_chunksWith σ 1 = some (tp_nI (tp_cw σ 1)) := tp_C_cw (k := 1) (by omega)
  have q0 : fC_chunksWith σ 0 = some (tp_nI (tp_cw σ 0)) := tp_C_cw (k := 0) (by omega)
  have r1 : fM_countWith (tp_up τ 0 0 0) 1 = some (tp_nI (tp_cw σ 1)) := tp_M_cw I R0 (k := 1) (by omega)
  have r0 : fM_countWith (tp_up τ 0 0 0) 0 = some (tp_nI (tp_cw σ 0)) := tp_M_cw I R0 (k := 0) (by omega)
  rw [fC_count, fM_count, tp_M_countL I R0, fM_count_L35, tp_C_dt, tp_C_al, tp_C_cap, q1, q0, tp_C_col, tp_M_al I R0, tp_M_cap R0, r1, r0]
  simp only [Option.bind_some]
  rcases tp_int_cases 7 (by omega) x with ⟨k, hk, ex⟩ | z | z
  · have m6 : (tp_up τ 0 0 0) 6 0 = σ 7 0 := R.2.2.2
    rcases (show k = 0 ∨ k = 1 ∨ k = 2 ∨ k = 3 ∨ k = 4 ∨ k = 5 ∨ k = 6 from by omega) with k0 | k0 | k0 | k0 | k0 | k0 | k0
    · have e1 : x = 0 := by rw [ex, k0]; rfl
      subst e1; exact yes _
    · have e1 : x = 1 := by rw [ex, k0]; rfl
      subst e1; exact yes _
    · have e1 : x = 2 := by rw [ex, k0]; rfl
      subst e1; exact yes _
    · have e1 : x = 3 := by rw [ex, k0]; rfl
      subst e1; exact yes _
    · have e1 : x = 4 := by rw [ex, k0]; rfl
      subst e1; exact yes _
    · have e1 : x = 5 := by rw [ex, k0]; rfl
      subst e1; exact yes _
    · have e1 : x = 6 := by rw [ex, k0]; rfl
      subst e1
      have := yes (σ 7 0)
      rw [← m6] at this ⊢
      exact this
  · rw [if_neg (fun w => by rw [w] at z; exact absurd z (by decide)), if_neg (fun w => by rw [w] at z; exact absurd z (by decide)), if_neg (fun w => by rw [w] at z; exact absurd z (by decide)), if_neg (fun w => by rw [w] at z; exact absurd z (by decide)), if_neg (fun w => by rw [w] at z; exact absurd z (by decide)), if_neg (fun w => by rw [w] at z; exact absurd z (by decide)), if_neg (fun w => by rw [w] at z; exact absurd z (by decide)), if_pos z]
    exact no
  · have z6 : 6 < x := Int32.lt_of_lt_of_le (by decide : (6 : Int32) < tp_nI 7) z
    have z0 : ¬ x < 0 := fun w => absurd (Int32.lt_of_le_of_lt z w) (by decide)
    rw [if_neg (fun w => by rw [w] at z; exact absurd z (by decide)), if_neg (fun w => by rw [w] at z; exact absurd z (by decide)), if_neg (fun w => by rw [w] at z; exact absurd z (by decide)), if_neg (fun w => by rw [w] at z; exact absurd z (by decide)), if_neg (fun w => by rw [w] at z; exact absurd z (by decide)), if_neg (fun w => by rw [w] at z; exact absurd z (by decide)), if_neg (fun w => by rw [w] at z; exact absurd z (by decide)), if_neg z0, if_pos z6]
    exact no
theorem tp_step1_sim {σ τ : tp_St} (I : tp_Inv σ) (R : tp_Rel tp_noX σ τ) : ∃ r σ' τ', fC_step σ = some (r, σ') ∧ fM_step τ = some (r, τ') ∧ tp_Inv σ' ∧ tp_Rel tp_noX σ' τ' ∧ τ' 0 0 = 0 := by
  obtain ⟨r, σ', τ', a1, a2, I1, R1, t1, _⟩ := tp_step_sim I (R.thrown 0)
  exact ⟨r, σ', τ', by rw [fC_step, a1]; rfl, by rw [fM_step, a2]; rfl, I1, R1, by rw [t1]; rfl⟩
theorem tp_start_inv {σ : tp_St} (h0 : ∀ d, d < 12 → σ 0 d = 0 ∧ σ 1 d = 0 ∧ σ 2 d = 0) (h3 : ∀ c, c < 400 → σ 3 c = 0 ∧ σ 4 c = -1 ∧ σ 5 c = -1) : tp_Inv σ := by
  have hc : ∀ d, d < 12 → tp_cn σ d = 0 := fun d hd => tp_sumF_all0 (fun c hc => by
    show (tp_oN σ c d).toNat = 0
    rw [tp_oN, (h3 c hc).2.1, (h3 c hc).2.2, decide_eq_false (tp_nI_m' (by omega))]; rfl)
  exact ⟨fun d hd => ⟨0, by omega, (h0 d hd).1, by rw [hc d hd]; omega⟩, fun d hd => by rw [hc d hd]; exact (h0 d hd).2.1, fun d hd => .inl (h0 d hd).2.2, fun c hc => .inl (h3 c hc)⟩
theorem tp_start_rel {σ τ : tp_St} (h0 : ∀ d, d < 12 → σ 0 d = 0 ∧ τ 1 d = 0) (h3 : ∀ c, c < 400 → σ 3 c = 0 ∧ σ 4 c = -1 ∧ σ 5 c = -1 ∧ τ 3 c = 0 ∧ τ 4 c = 0) (h6 : ∀ k, k < 1600 → σ 6 k = 0 ∧ τ 5 k = 0) (h7 : σ 7 0 = 0) (h8 : τ 6 0 = 0) : tp_Rel tp_noX σ τ :=
  ⟨fun d hd => ⟨.inl (by rw [(h0 d hd).1, (h0 d hd).2]), fun z => by rw [(h0 d hd).1] at z; exact absurd z (by decide)⟩, fun c hc => by
    obtain ⟨a, b, c', d, e⟩ := h3 c hc
    exact ⟨by rw [a, d], by rw [b, c', e]; exact tp_mk_z.symm⟩, fun k hk => by rw [(h6 k hk).1, (h6 k hk).2], by rw [h7, h8]⟩
