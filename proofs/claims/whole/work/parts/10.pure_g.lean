theorem tp_pR_iff {σ : tp_St} {c : Nat} {x : Int32} {e : Nat} : tp_pR σ c x e = true ↔ tp_nI e ≠ x ∧ tp_oN σ c e = true ∧ tp_sy σ e = true ∧ 0 < tp_fr σ e ∧ (tp_fR σ e).isSome = true := by
  rw [tp_pR, Bool.and_eq_true, Bool.and_eq_true, Bool.and_eq_true, Bool.and_eq_true, decide_eq_true_eq, decide_eq_true_eq]
theorem tp_swr_n {σ : tp_St} {d : Nat} (hd : d < 12) : tp_swr σ (tp_nI d) = true ↔ tp_sy σ d = true ∧ 0 < tp_fr σ d := by rw [tp_swr, tp_syv_n σ hd, tp_td hd, Bool.and_eq_true, decide_eq_true_eq]
theorem tp_swr_m {σ : tp_St} : tp_swr σ (-1) = false := by rw [tp_swr, tp_syv_m]; rfl
theorem tp_fr_room {σ σ' : tp_St} (I1 : tp_Inv σ') {a D : Nat} (ha : a < 12) (p0 : σ' 0 = σ 0) (c1 : tp_cn σ' a + 1 = tp_cn σ a) (i3 : tp_cn σ a ≤ tp_pl σ a) : 0 < tp_fr σ' a := by
  refine (tp_fr_pos I1 ha).mpr ?_
  have : tp_pl σ' a = tp_pl σ a := by rw [tp_pl, tp_pl, p0]
  omega
theorem tp_rtm_sim {σ τ : tp_St} (I : tp_Inv σ) (R : tp_Rel tp_noX σ τ) (hm : ∀ c, c < 400 → tp_dg σ c = true → tp_tk σ c = false) :
    ((∀ c, c < 400 → tp_dg σ c = true → ∀ D, D < 12 → tp_oN σ c D = true → tp_sy σ D = true → 0 < tp_fr σ D → tp_fR σ D = none) ∧ fC_makeRoomToMend σ = some (0, σ) ∧ fM_roomForOne τ = some (0, τ)) ∨
    ∃ σ' τ', fC_makeRoomToMend σ = some (1, σ') ∧ fM_roomForOne τ = some (1, τ') ∧ tp_Inv σ' ∧ tp_Rel tp_noX σ' τ' ∧ τ' 0 = τ 0 ∧ tp_mu σ' = tp_mu σ ∧ tp_g1 σ' ∧ ∃ c, c < 400 ∧ tp_dg σ c = true := by
  rw [tp_C_rtm I, tp_M_rtm I R]
  have hp : ∀ c, c < 400 → tp_pQ σ c = true → tp_pW σ c = true := fun c hc h => by
    rw [tp_pQ, Bool.and_eq_true, Option.isSome_iff_exists] at h
    obtain ⟨hg, e, he⟩ := h
    obtain ⟨a, ha, h4, h5⟩ := tp_dg_V (I.vv hc) hg
    obtain ⟨_, k1, k2, _⟩ := tp_findF_some he
    obtain ⟨_, ho, hs, hf, _⟩ := tp_pR_iff.mp k2
    rw [tp_oN_1 h4 h5 ha (by omega), decide_eq_true_eq] at ho
    rw [tp_pW, hg, h4, Bool.true_and, tp_swr_n ha, ← ho]
    exact ⟨hs, hf⟩
  cases hf : tp_findF (tp_pW σ) 400 0 with
  | none =>
    have hno := tp_findF_none hf
    have hq : tp_findF (tp_pQ σ) 400 0 = none := tp_findF_no (fun c hc => by
      cases h : tp_pQ σ c with
      | false => rfl
      | true => have := hno c (by omega) (by omega); rw [hp c hc h] at this; cases this)
    refine .inl ⟨fun c hc hg D hD ho hs hfr => ?_, rfl, by rw [hq]; rfl⟩
    obtain ⟨a, ha, h4, h5⟩ := tp_dg_V (I.vv hc) hg
    rw [tp_oN_1 h4 h5 ha hD, decide_eq_true_eq] at ho
    have := hno c (by omega) (by omega)
    rw [tp_pW, hg, Bool.true_and, h4, ← ho, (tp_swr_n hD).mpr ⟨hs, hfr⟩] at this
    cases this
  | some c =>
    obtain ⟨_, k1, k2, k3⟩ := tp_findF_some hf
    have hc : c < 400 := by omega
    rw [tp_pW, Bool.and_eq_true] at k2
    obtain ⟨D, hD, h4, h5⟩ := tp_dg_V (I.vv hc) k2.1
    have hsw := k2.2
    rw [h4, tp_swr_n hD] at hsw
    have hall : ∀ e, e < 12 → tp_sy σ e = true → 0 < tp_fr σ e → e = D := fun e he hs hfr => by
      have := tp_tk_no (hm c hc k2.1) he hs hfr
      rw [tp_oN_1 h4 h5 hD he, decide_eq_true_eq] at this
      exact this
    rcases tp_room_sim I R hD ((tp_fr_pos I hD).mp hsw.2) with ⟨h1, b1, b2⟩ | ⟨c', a, σ', τ', hc', ha, h1, oa, oo, hs', b1, b2, I1, R1, t0, o1, ⟨s0, s2, s3, s6⟩, c1⟩
    · have hq : tp_findF (tp_pQ σ) 400 0 = none := tp_findF_no (fun i hi => by
        cases h : tp_pQ σ i with
        | false => rfl
        | true =>
          rw [tp_pQ, Bool.and_eq_true, Option.isSome_iff_exists] at h
          obtain ⟨_, e, he⟩ := h
          obtain ⟨_, q1, q2, _⟩ := tp_findF_some he
          obtain ⟨_, _, hs, hfr, hr⟩ := tp_pR_iff.mp q2
          rw [hall e (by omega) hs hfr, h1] at hr; cases hr)
      refine .inl ⟨fun i hi _ e he _ hs hfr => by rw [hall e he hs hfr]; exact h1, ?_, by rw [hq]; rfl⟩
      show (fC_makeRoomBeside σ (σ 4 c)).bind _ = _
      rw [h4, b1]; rfl
    · have hfD : tp_findF (tp_pR σ c (-1)) 12 0 = some D := tp_findF_is hD (tp_pR_iff.mpr ⟨tp_nI_m (by omega), by rw [tp_oN_1 h4 h5 hD hD]; exact decide_eq_true rfl, hsw.1, hsw.2, by rw [h1]; rfl⟩) (fun e he => by
        rw [tp_pR, tp_oN_1 h4 h5 hD (by omega), decide_eq_false (show ¬ e = D from by omega), Bool.false_and, Bool.and_false])
      have hq : tp_findF (tp_pQ σ) 400 0 = some c := tp_findF_is hc (by rw [tp_pQ, k2.1, hfD]; rfl) (fun i hi => by
        cases h : tp_pQ σ i with
        | false => rfl
        | true => have := k3 i (by omega) hi; rw [hp i (by omega) h] at this; cases this)
      have hcc : c ≠ c' := fun z => by
        rw [← z, tp_oN_1 h4 h5 hD hD, decide_eq_true rfl] at oo; cases oo
      have haD : a ≠ D := fun z => by rw [z, oo] at oa; cases oa
      have oc : ∀ e, e < 12 → tp_oN σ' c e = tp_oN σ c e := fun e he => by rw [o1 c e he, tp_mvO, if_neg hcc]
      obtain ⟨m1, m2⟩ := tp_mu_room I I1 hc' ha hD oa oo hs' hsw.1 o1 s2
      have ca := c1 a ha
      rw [decide_eq_true rfl, decide_eq_false haD, show (true).toNat = 1 from rfl, show (false).toNat = 0 from rfl] at ca
      refine .inr ⟨σ', τ', ?_, ?_, I1, R1, t0, m1, ⟨c, hc, by rw [m2 c hc]; exact k2.1, ?_⟩, c, hc, k2.1⟩
      · show (fC_makeRoomBeside σ (σ 4 c)).bind _ = _
        rw [h4, b1, Option.bind_some]
        show (if tp_nI a = -1 then _ else _) = _
        rw [if_neg (tp_nI_m (by omega))]
      · rw [hq]
        show fM_roomFor τ (tp_nI c) (-1) = _
        rw [tp_M_rf I R hc, hfD]
        show (fM_makeRoom τ (tp_nI D)).bind _ = _
        rw [b2]; rfl
      · refine tp_tk_of ha ?_ ?_ (tp_fr_room (D := D) I1 ha s0 (by omega) (I.pl ha).2.2)
        · rw [oc a ha, tp_oN_1 h4 h5 hD ha]; exact decide_eq_false haD
        · rw [tp_sy_iff, s0, s2]; exact tp_sy_iff.mp hs'
theorem tp_ot_on {σ : tp_St} {c d e : Nat} (hV : tp_VV (σ 4 c) (σ 5 c)) (hd : d < 12) (he : e < 12) (ho : tp_oN σ c d = true) (hne : e ≠ d) : tp_oN σ c e = decide (tp_ot σ c d = tp_nI e) := by
  have k := (tp_ot_V hV hd ho).2.2 e he
  rw [decide_eq_false (tp_nI_m' (i := e) (by omega)), Bool.or_false, decide_eq_false hne, Bool.not_false, Bool.and_true] at k
  exact k.symm
theorem tp_ot_D {σ : tp_St} {c d : Nat} (hV : tp_VV (σ 4 c) (σ 5 c)) : tp_DD (tp_ot σ c d) := by
  unfold tp_ot
  by_cases z : σ 4 c = tp_nI d
  · rw [if_pos z]; exact hV.g
  · rw [if_neg z]; exact hV.l
theorem tp_qBO3 {σ : tp_St} {c d : Nat} (I : tp_Inv σ) (hc : c < 400) (hd : d < 12) (hl : σ 2 d ≠ 0) (ho : tp_oN σ c d = true) : tp_eM (tp_qB σ (tp_ot σ c d)) (tp_fr σ) 12 = tp_eM (tp_qO σ c) (tp_fr σ) 12 :=
  tp_eM_congr (fun e he => by
    rw [tp_qB, tp_qO]
    cases hs : tp_sy σ e with
    | false => rw [Bool.and_false, Bool.and_false]
    | true =>
      have hne : e ≠ d := fun z => hl (by rw [← z]; exact (tp_sy_iff.mp hs).2)
      rw [tp_ot_on (I.vv hc) hd he ho hne]
      congr 1
      by_cases z : tp_ot σ c d = tp_nI e
      · rw [decide_eq_true z, decide_eq_false (fun w => w z.symm)]; rfl
      · rw [decide_eq_false z, decide_eq_true (show tp_nI e ≠ tp_ot σ c d from fun w => z w.symm)]; rfl)
def tp_pF (σ : tp_St) (d c : Nat) : Bool := tp_oN σ c d && tp_tk σ c
theorem tp_C_offd {σ : tp_St} (I : tp_Inv σ) {d : Nat} (hd : d < 12) (hl : σ 2 d ≠ 0) : fC_moveOneOffDisk σ (tp_nI d) = (tp_findF (tp_pF σ d) 400 0).elim (some (0, σ)) (fun c => (fC_moveCopy σ (tp_nI c) (tp_nI d) (tp_enc (tp_eM (tp_qO σ c) (tp_fr σ) 12))).bind fun q => some (1, q)) := by
  refine tp_find_loop0 (F := fun n x => fC_moveOneOffDisk_L2 (tp_nI d) n x σ) (N := 400) ?_ ?_
  · show fC_moveOneOffDisk_L2 (tp_nI d) 1 (tp_nI 400) σ = _
    rw [fC_moveOneOffDisk_L2, if_pos (by decide)]
  · intro n i hi
    show fC_moveOneOffDisk_L2 (tp_nI d) (n + 1) (tp_nI i) σ = _
    rw [fC_moveOneOffDisk_L2, if_neg (tp_g4 hi), tp_C_isOn' hi d, Option.bind_some, tp_if_bI, tp_C_other hi, Option.bind_some, tp_C_emp, Option.bind_some, tp_pF]
    cases ho : tp_oN σ i d with
    | false => rfl
    | true =>
      rw [if_pos rfl, tp_qBO3 I hi hd hl ho, Bool.true_and, tp_tk]
      cases he : tp_eM (tp_qO σ i) (tp_fr σ) 12 with
      | none => rfl
      | some e =>
        show (if tp_nI e = -1 then _ else _) = _
        rw [if_neg (tp_nI_m (by have := tp_eM_12 (Nat.le_refl _) he; omega))]; rfl
theorem tp_off_move {σ τ : tp_St} (I : tp_Inv σ) (R : tp_Rel tp_noX σ τ) {d c : Nat} (hd : d < 12) (hc : c < 400) (hl : σ 2 d ≠ 0) (h : tp_pF σ d c = true) :
    ∃ e σ' τ', tp_eM (tp_qO σ c) (tp_fr σ) 12 = some e ∧ e < 12 ∧ fC_moveCopy σ (tp_nI c) (tp_nI d) (tp_nI e) = some σ' ∧ τ' = tp_up τ 4 c (τ 4 c - 1 <<< (tp_nI d &&& 31) + 1 <<< (tp_nI e &&& 31)) ∧ tp_Inv σ' ∧ tp_Rel (fun x => x = d) σ' τ' ∧ tp_mu σ' < tp_mu σ := by
  rw [tp_pF, Bool.and_eq_true] at h
  obtain ⟨e, he, h1, h2, h3, h4⟩ := tp_tk_some h.2
  obtain ⟨σ', r1, I1, o1, ⟨s3, s6, s7⟩, se, sa, c1, R1⟩ := tp_move_spec I hc hd h1 h.1 h2 ((tp_fr_pos I h1).mp h4)
  refine ⟨e, σ', _, he, h1, r1, rfl, I1, ?_, ?_⟩
  · rw [tp_bt_n hd, tp_bt_n h1]
    exact R1 _ τ (R.mono (fun _ _ z => z.elim)) (fun _ => rfl)
  · have hed : e ≠ d := fun z => by rw [z, h.1] at h2; cases h2
    have h2e : σ 2 e = 0 := (tp_sy_iff.mp h3).2
    have fl : ∀ i x, i < 400 → x < 12 → (tp_oN σ' i x && decide (σ' 2 x ≠ 0)) = (tp_oN σ' i x && decide (σ 2 x ≠ 0)) := fun i x hi hx => by
      by_cases z : x = d
      · rcases sa with w | w
        · rw [z, w.2]
        · have h0 : tp_cn σ' d = 0 := by
            obtain ⟨P, i1, i2, i3⟩ := I1.1 d hd
            rw [w.2.1] at i2
            have := (tp_nI_0 (by omega)).mp i2.symm
            omega
          have : tp_oN σ' i d = false := by
            have this : (tp_oN σ' i d).toNat = 0 := tp_sumF_zero h0 i hi
            cases hh : tp_oN σ' i d with
            | false => rfl
            | true => rw [hh] at this; cases this
          rw [z, this]; rfl
      · rw [(se x z).2]
    have kn : ∀ i, i < 400 → tp_nc σ' i = tp_nc σ i := fun i hi => by
      rw [← tp_nc_cnt (I1.vv hi), ← tp_nc_cnt (I.vv hi)]
      by_cases z : i = c
      · rw [z, show tp_cntF (fun x => tp_oN σ' c x) 12 = tp_cntF (fun x => (tp_oN σ c x && !decide (x = d)) || decide (x = e)) 12 from tp_cntF_congr (fun x hx => by rw [o1 c x hx, tp_mvO, if_pos rfl])]
        exact tp_mv_cnt hd h1 h.1 h2
      · exact tp_cntF_congr (fun x hx => by rw [o1 i x hx, tp_mvO, if_neg z])
    have kw : ∀ i, i < 400 → i ≠ c → tp_wt σ' i = tp_wt σ i := fun i hi hne => by
      unfold tp_wt
      rw [tp_dg, tp_dg, kn i hi]
      congr 1
      refine tp_cntF_congr (fun x hx => ?_)
      rw [fl i x hi hx, o1 i x hx, tp_mvO, if_neg hne]
    have k := tp_sumF_upd (f := tp_wt σ') (g := tp_wt σ) (c := c) (n := 400) hc kw
    have q : tp_sumF (fun x => (tp_oN σ' c x && decide (σ' 2 x ≠ 0)).toNat) 12 + (tp_oN σ c d && decide (σ 2 d ≠ 0)).toNat = tp_sumF (fun x => (tp_oN σ c x && decide (σ 2 x ≠ 0)).toNat) 12 + (tp_oN σ' c d && decide (σ' 2 d ≠ 0)).toNat := tp_sumF_upd (f := fun x => (tp_oN σ' c x && decide (σ' 2 x ≠ 0)).toNat) (g := fun x => (tp_oN σ c x && decide (σ 2 x ≠ 0)).toNat) (c := d) (n := 12) hd (fun x hx hne => by
      show (tp_oN σ' c x && decide (σ' 2 x ≠ 0)).toNat = _
      rw [fl c x hc hx, o1 c x hx, tp_mvO, if_pos rfl, decide_eq_false hne, Bool.not_false, Bool.and_true]
      by_cases z : x = e
      · rw [z, h2e, decide_eq_false (fun v : (0 : Int32) ≠ 0 => v rfl), Bool.and_false, Bool.and_false]
      · rw [decide_eq_false z, Bool.or_false])
    have q1 : (tp_oN σ' c d && decide (σ' 2 d ≠ 0)).toNat = 0 := by
      rw [o1 c d hd, tp_mvO, if_pos rfl, decide_eq_true (rfl : d = d), decide_eq_false (fun z => hed z.symm), Bool.not_true, Bool.and_false]; rfl
    have q2 : (tp_oN σ c d && decide (σ 2 d ≠ 0)).toNat = 1 := by rw [h.1, decide_eq_true hl]; rfl
    have w1 : tp_wt σ c = (tp_dg σ c).toNat + tp_sumF (fun x => (tp_oN σ c x && decide (σ 2 x ≠ 0)).toNat) 12 := rfl
    have w2 : tp_wt σ' c = (tp_dg σ c).toNat + tp_sumF (fun x => (tp_oN σ' c x && decide (σ' 2 x ≠ 0)).toNat) 12 := by
      show (tp_dg σ' c).toNat + _ = _
      rw [show tp_dg σ' c = tp_dg σ c from by rw [tp_dg, tp_dg, kn c hc]]
    rw [q1, q2] at q
    unfold tp_mu
    omega
def tp_pG (σ : tp_St) (d : Nat) : Bool := decide (σ 2 d ≠ 0) && (tp_findF (tp_pF σ d) 400 0).isSome
theorem tp_C_off {σ τ : tp_St} (I : tp_Inv σ) (R : tp_Rel tp_noX σ τ) : fC_moveOneOff σ = (tp_findF (tp_pG σ) 12 0).elim (some (0, σ)) (fun d => fC_moveOneOffDisk σ (tp_nI d)) := by
  refine tp_find_loop0 (F := fun n x => fC_moveOneOff_L2 n x σ) (N := 12) ?_ ?_
  · show fC_moveOneOff_L2 1 (tp_nI 12) σ = _
    rw [fC_moveOneOff_L2, if_pos (by decide)]
  · intro n i hi
    show fC_moveOneOff_L2 (n + 1) (tp_nI i) σ = _
    rw [fC_moveOneOff_L2, if_neg (tp_gd hi), if_neg (tp_bd hi), tp_td hi, tp_pG]
    by_cases y : σ 2 i = 0
    · rw [if_pos y, decide_eq_false (fun z => z y)]; rfl
    · rw [if_neg y, decide_eq_true y, tp_C_offd I hi y, Bool.true_and]
      cases hf : tp_findF (tp_pF σ i) 400 0 with
      | none => rfl
      | some c =>
        obtain ⟨_, k1, k2, _⟩ := tp_findF_some hf
        obtain ⟨e, σ', τ', a1, a2, a3, _⟩ := tp_off_move I R hi (by omega) y k2
        show ((fC_moveCopy σ (tp_nI c) (tp_nI i) (tp_enc (tp_eM (tp_qO σ c) (tp_fr σ) 12))).bind fun q => some (1, q)).bind _ = (fC_moveCopy σ (tp_nI c) (tp_nI i) (tp_enc (tp_eM (tp_qO σ c) (tp_fr σ) 12))).bind fun q => some (1, q)
        rw [a1]
        show ((fC_moveCopy σ (tp_nI c) (tp_nI i) (tp_nI e)).bind fun q => some ((1 : Int32), q)).bind _ = (fC_moveCopy σ (tp_nI c) (tp_nI i) (tp_nI e)).bind fun q => some (1, q)
        rw [a3]; rfl
theorem tp_M_lv {σ τ : tp_St} (I : tp_Inv σ) (R : tp_Rel tp_noX σ τ) {d : Nat} (hd : d < 12) : (σ 2 d = 0 → τ 1 d ≤ 0 ∨ τ 2 d = 0) ∧ (σ 2 d ≠ 0 → ¬ τ 1 d ≤ 0 ∧ ¬ τ 2 d = 0) := by
  rw [R.pl hd]
  refine ⟨fun h => ?_, fun h => ?_⟩
  · by_cases z : 0 < σ 0 d
    · exact .inr (by rw [(R.1 d hd).2 z]; exact h)
    · exact .inl (Int32.not_lt.mp z)
  · have k := I.lv hd h
    exact ⟨Int32.not_le.mpr k.1, by rw [(R.1 d hd).2 k.1]; exact h⟩
theorem tp_M_lo0 {σ τ : tp_St} (I : tp_Inv σ) (R : tp_Rel tp_noX σ τ) : fM_leaveOne τ 0 = (tp_findF (tp_pG σ) 12 0).elim (some ((0 : Int32), τ)) (fun d => (tp_findF (tp_pF σ d) 400 0).elim none (fun c => some ((1 : Int32), tp_up τ 4 c (τ 4 c - 1 <<< (tp_nI d &&& 31) + 1 <<< (tp_enc (tp_eM (tp_qO σ c) (tp_fr σ) 12) &&& 31))))) := by
  refine tp_find_loop0 (F := fun n x => fM_leaveOne_L2 0 n x τ) (N := 12) ?_ ?_
  · show fM_leaveOne_L2 0 1 (tp_nI 12) τ = _
    rw [fM_leaveOne_L2, if_pos (by decide)]
  · intro n d hd
    show fM_leaveOne_L2 0 (n + 1) (tp_nI d) τ = _
    rw [fM_leaveOne_L2, if_neg (tp_gd hd), tp_pG]
    by_cases y : σ 2 d = 0
    · rw [decide_eq_false (fun z => z y)]
      show fM_leaveOne_L10 _ 0 (tp_nI d) (400 + 1) 0 τ = _
      rw [fM_leaveOne_L10, if_neg (by decide), if_neg (tp_bd hd), tp_td hd]
      rcases (tp_M_lv I R hd).1 y with z | z
      · rw [if_pos z]; rfl
      · by_cases w : τ 1 d ≤ 0
        · rw [if_pos w]; rfl
        · rw [if_neg w, if_pos z]; rfl
    · rw [decide_eq_true y, Bool.true_and]
      obtain ⟨y1, y2⟩ := (tp_M_lv I R hd).2 y
      have inner : fM_leaveOne_L10 (fun (σ10k : tp_St) => fM_leaveOne_L2 0 n (tp_nI d + 1) σ10k) 0 (tp_nI d) 401 0 τ = (tp_findF (tp_pF σ d) 400 0).elim (fM_leaveOne_L2 0 n (tp_nI d + 1) τ) (fun c => some (1, tp_up τ 4 c (τ 4 c - 1 <<< (tp_nI d &&& 31) + 1 <<< (tp_enc (tp_eM (tp_qO σ c) (tp_fr σ) 12) &&& 31)))) := by
        refine tp_find_loop0 (F := fun n' x => fM_leaveOne_L10 (fun (σ10k : tp_St) => fM_leaveOne_L2 0 n (tp_nI d + 1) σ10k) 0 (tp_nI d) n' x τ) (N := 400) ?_ ?_
        · show fM_leaveOne_L10 _ 0 (tp_nI d) 1 (tp_nI 400) τ = _
          rw [fM_leaveOne_L10, if_pos (by decide)]
        · intro n' c hc
          show fM_leaveOne_L10 _ 0 (tp_nI d) (n' + 1) (tp_nI c) τ = _
          rw [fM_leaveOne_L10, if_neg (tp_g4 hc), if_neg (tp_bd hd), tp_td hd, if_neg y1, if_neg y2, tp_M_isOn I R hc hd, Option.bind_some, tp_if_bI, if_pos rfl, tp_M_emp2 I R hc, Option.bind_some, if_pos rfl, if_neg (tp_b4 hc), tp_t4 hc, tp_pF, tp_tk]
          cases tp_oN σ c d with
          | false => rfl
          | true =>
            cases he : tp_eM (tp_qO σ c) (tp_fr σ) 12 with
            | none => rfl
            | some e =>
              show (if tp_nI e < 0 then _ else _) = _
              rw [if_neg (tp_nI_nn (by have := tp_eM_12 (Nat.le_refl _) he; omega))]; rfl
      rw [inner]
      cases tp_findF (tp_pF σ d) 400 0 <;> rfl
theorem tp_off_sim {σ τ : tp_St} (I : tp_Inv σ) (R : tp_Rel tp_noX σ τ) :
    ((∀ d, d < 12 → σ 2 d ≠ 0 → ∀ c, c < 400 → tp_oN σ c d = true → tp_tk σ c = false) ∧ fC_moveOneOff σ = some (0, σ) ∧ fM_leaveOne τ 0 = some (0, τ)) ∨
    ∃ d σ' τ', fC_moveOneOff σ = some (1, σ') ∧ fM_leaveOne τ 0 = some (1, τ') ∧ tp_Inv σ' ∧ tp_Rel (fun x => x = d) σ' τ' ∧ τ' 0 = τ 0 ∧ tp_mu σ' < tp_mu σ := by
  rw [tp_C_off I R, tp_M_lo0 I R]
  cases hf : tp_findF (tp_pG σ) 12 0 with
  | none =>
    refine .inl ⟨fun d hd hl c hc ho => ?_, rfl, rfl⟩
    have k := tp_findF_none hf d (by omega) (by omega)
    rw [tp_pG, decide_eq_true hl, Bool.true_and] at k
    have k2 : tp_findF (tp_pF σ d) 400 0 = none := by
      cases h : tp_findF (tp_pF σ d) 400 0 with
      | none => rfl
      | some c => rw [h] at k; cases k
    have := tp_findF_none k2 c (by omega) (by omega)
    rw [tp_pF, ho, Bool.true_and] at this
    exact this
  | some d =>
    obtain ⟨_, k1, k2, _⟩ := tp_findF_some hf
    have hd : d < 12 := by omega
    rw [tp_pG, Bool.and_eq_true, decide_eq_true_eq, Option.isSome_iff_exists] at k2
    obtain ⟨hl, c, hc⟩ := k2
    obtain ⟨_, q1, q2, _⟩ := tp_findF_some hc
    obtain ⟨e, σ', τ', a1, a2, a3, a4, a5, a6, a7⟩ := tp_off_move I R hd (show c < 400 by omega) hl q2
    refine .inr ⟨d, σ', τ', ?_, ?_, a5, a6, by rw [a4]; rfl, a7⟩
    · show fC_moveOneOffDisk σ (tp_nI d) = _
      rw [tp_C_offd I hd hl, hc]
      show (fC_moveCopy σ (tp_nI c) (tp_nI d) (tp_enc (tp_eM (tp_qO σ c) (tp_fr σ) 12))).bind _ = _
      rw [a1]
      show (fC_moveCopy σ (tp_nI c) (tp_nI d) (tp_nI e)).bind _ = _
      rw [a3]; rfl
    · show (tp_findF (tp_pF σ d) 400 0).elim none _ = _
      rw [hc, a4]
      show some ((1 : Int32), tp_up τ 4 c (τ 4 c - 1 <<< (tp_nI d &&& 31) + 1 <<< (tp_enc (tp_eM (tp_qO σ c) (tp_fr σ) 12) &&& 31))) = _
      rw [a1]; rfl
def tp_pO (σ : tp_St) (d c : Nat) : Bool := tp_oN σ c d && tp_swr σ (tp_ot σ c d)
theorem tp_C_odw {σ : tp_St} (I : tp_Inv σ) {d : Nat} : fC_otherDiskWithRoom σ (tp_nI d) = some ((tp_findF (tp_pO σ d) 400 0).elim (-1) (fun c => tp_ot σ c d)) := by
  have h := tp_find_loop0 (F := fun n x => fC_otherDiskWithRoom_L2 σ (tp_nI d) n x) (N := 400) (p := tp_pO σ d) (hit := fun c => some (tp_ot σ c d)) (miss := some (-1)) (by
    show fC_otherDiskWithRoom_L2 σ (tp_nI d) 1 (tp_nI 400) = _
    rw [fC_otherDiskWithRoom_L2, if_pos (by decide)]) (fun n i hi => by
    show fC_otherDiskWithRoom_L2 σ (tp_nI d) (n + 1) (tp_nI i) = _
    rw [fC_otherDiskWithRoom_L2, if_neg (tp_g4 hi), tp_C_isOn' hi d, Option.bind_some, tp_if_bI, tp_C_other hi, Option.bind_some, tp_C_swr (tp_ot_D (I.vv hi)), Option.bind_some, tp_if_bI, Option.bind_some, tp_pO]
    cases tp_oN σ i d with
    | false => rfl
    | true => cases tp_swr σ (tp_ot σ i d) <;> rfl)
  rw [fC_otherDiskWithRoom]
  refine Eq.trans h ?_
  cases tp_findF (tp_pO σ d) 400 0 <;> rfl
def tp_pP (σ : tp_St) (d : Nat) : Bool := decide (σ 2 d ≠ 0) && (tp_findF (tp_pO σ d) 400 0).isSome
theorem tp_pO_d {σ : tp_St} (I : tp_Inv σ) {d c : Nat} (hc : c < 400) (h : tp_pO σ d c = true) : tp_oN σ c d = true ∧ ∃ D, D < 12 ∧ tp_ot σ c d = tp_nI D ∧ tp_sy σ D = true ∧ 0 < tp_fr σ D := by
  rw [tp_pO, Bool.and_eq_true] at h
  rcases tp_ot_D (d := d) (I.vv hc) with z | ⟨D, hD, z⟩
  · rw [z, tp_swr_m] at h; exact absurd h.2 (by decide)
  · rw [z, tp_swr_n hD] at h; exact ⟨h.1, D, hD, z, h.2.1, h.2.2⟩
theorem tp_C_rto {σ : tp_St} (I : tp_Inv σ) : fC_makeRoomToMoveOff σ = (tp_findF (tp_pP σ) 12 0).elim (some (0, σ)) (fun d => (tp_findF (tp_pO σ d) 400 0).elim none (fun c => (fC_makeRoomBeside σ (tp_ot σ c d)).bind fun q => if q.1 = -1 then some (0, q.2) else some (1, q.2))) := by
  refine tp_find_loop0 (F := fun n x => fC_makeRoomToMoveOff_L2 n x σ) (N := 12) ?_ ?_
  · show fC_makeRoomToMoveOff_L2 1 (tp_nI 12) σ = _
    rw [fC_makeRoomToMoveOff_L2, if_pos (by decide)]
  · intro n d hd
    show fC_makeRoomToMoveOff_L2 (n + 1) (tp_nI d) σ = _
    rw [fC_makeRoomToMoveOff_L2, if_neg (tp_gd hd), if_neg (tp_bd hd), tp_td hd, tp_C_odw I, Option.bind_some, tp_pP]
    by_cases y : σ 2 d = 0
    · rw [if_pos y, decide_eq_false (fun z => z y)]; rfl
    · rw [if_neg y, decide_eq_true y, Bool.true_and]
      cases hf : tp_findF (tp_pO σ d) 400 0 with
      | none => rfl
      | some c =>
        obtain ⟨_, k1, k2, _⟩ := tp_findF_some hf
        obtain ⟨_, D, hD, e, _⟩ := tp_pO_d I (show c < 400 by omega) k2
        show (if tp_ot σ c d = -1 then _ else _) = _
        rw [if_neg (by rw [e]; exact tp_nI_m (by omega))]; rfl
def tp_pS (σ : tp_St) (d c : Nat) : Bool := tp_oN σ c d && (tp_findF (tp_pR σ c (tp_nI d)) 12 0).isSome
def tp_pT (σ : tp_St) (d : Nat) : Bool := decide (σ 2 d ≠ 0) && (tp_findF (tp_pS σ d) 400 0).isSome
theorem tp_M_rf1 {σ τ : tp_St} (I : tp_Inv σ) (R : tp_Rel tp_noX σ τ) {c : Nat} (hc : c < 400) {x : Int32} {e : Nat} (hf : tp_findF (tp_pR σ c x) 12 0 = some e) : ∃ τ', fM_roomFor τ (tp_nI c) x = some (1, τ') := by
  obtain ⟨_, k1, k2, _⟩ := tp_findF_some hf
  obtain ⟨_, _, _, hfr, hr⟩ := tp_pR_iff.mp k2
  rw [tp_M_rf I R hc, hf]
  rcases tp_room_sim I R (show e < 12 by omega) ((tp_fr_pos I (by omega)).mp hfr) with ⟨h1, _⟩ | ⟨c', a, σ', τ', hc', ha, h1, oa, oo, hs', b1, b2, _⟩
  · rw [h1] at hr; cases hr
  · exact ⟨τ', by show (fM_makeRoom τ (tp_nI e)).bind _ = _; rw [b2]; rfl⟩
theorem tp_M_lo1 {σ τ : tp_St} (I : tp_Inv σ) (R : tp_Rel tp_noX σ τ) : fM_leaveOne τ 1 = (tp_findF (tp_pT σ) 12 0).elim (some (0, τ)) (fun d => (tp_findF (tp_pS σ d) 400 0).elim none (fun c => fM_roomFor τ (tp_nI c) (tp_nI d))) := by
  refine tp_find_loop0 (F := fun n x => fM_leaveOne_L2 1 n x τ) (N := 12) ?_ ?_
  · show fM_leaveOne_L2 1 1 (tp_nI 12) τ = _
    rw [fM_leaveOne_L2, if_pos (by decide)]
  · intro n d hd
    show fM_leaveOne_L2 1 (n + 1) (tp_nI d) τ = _
    rw [fM_leaveOne_L2, if_neg (tp_gd hd), tp_pT]
    by_cases y : σ 2 d = 0
    · rw [decide_eq_false (fun z => z y)]
      show fM_leaveOne_L10 _ 1 (tp_nI d) (400 + 1) 0 τ = _
      rw [fM_leaveOne_L10, if_neg (by decide), if_neg (tp_bd hd), tp_td hd]
      rcases (tp_M_lv I R hd).1 y with z | z
      · rw [if_pos z]; rfl
      · by_cases w : τ 1 d ≤ 0
        · rw [if_pos w]; rfl
        · rw [if_neg w, if_pos z]; rfl
    · rw [decide_eq_true y, Bool.true_and]
      obtain ⟨y1, y2⟩ := (tp_M_lv I R hd).2 y
      have inner : fM_leaveOne_L10 (fun (σ10k : tp_St) => fM_leaveOne_L2 1 n (tp_nI d + 1) σ10k) 1 (tp_nI d) 401 0 τ = (tp_findF (tp_pS σ d) 400 0).elim (fM_leaveOne_L2 1 n (tp_nI d + 1) τ) (fun c => fM_roomFor τ (tp_nI c) (tp_nI d)) := by
        refine tp_find_loop0 (F := fun n' x => fM_leaveOne_L10 (fun (σ10k : tp_St) => fM_leaveOne_L2 1 n (tp_nI d + 1) σ10k) 1 (tp_nI d) n' x τ) (N := 400) ?_ ?_
        · show fM_leaveOne_L10 _ 1 (tp_nI d) 1 (tp_nI 400) τ = _
          rw [fM_leaveOne_L10, if_pos (by decide)]
        · intro n' c hc
          show fM_leaveOne_L10 _ 1 (tp_nI d) (n' + 1) (tp_nI c) τ = _
          rw [fM_leaveOne_L10, if_neg (tp_g4 hc), if_neg (tp_bd hd), tp_td hd, if_neg y1, if_neg y2, tp_M_isOn I R hc hd, Option.bind_some, tp_if_bI, if_neg (show ¬ (1 : Int32) = 0 by decide), if_neg (show ¬ (1 : Int32) = 0 by decide), tp_pS]
          cases tp_oN σ c d with
          | false => rfl
          | true =>
            rw [if_pos rfl, Bool.true_and]
            cases hf : tp_findF (tp_pR σ c (tp_nI d)) 12 0 with
            | none => rw [tp_M_rf I R hc, hf]; rfl
            | some e =>
              obtain ⟨τ', ht⟩ := tp_M_rf1 I R hc hf
              rw [ht]; rfl
      rw [inner]
      cases tp_findF (tp_pS σ d) 400 0 <;> rfl
theorem tp_rto_sim {σ τ : tp_St} (I : tp_Inv σ) (R : tp_Rel tp_noX σ τ) (hm : ∀ c, c < 400 → tp_dg σ c = true → tp_tk σ c = false)
    (hw : ∀ c, c < 400 → tp_dg σ c = true → ∀ D, D < 12 → tp_oN σ c D = true → tp_sy σ D = true → 0 < tp_fr σ D → tp_fR σ D = none)
    (ho : ∀ d, d < 12 → σ 2 d ≠ 0 → ∀ c, c < 400 → tp_oN σ c d = true → tp_tk σ c = false) :
    (fC_makeRoomToMoveOff σ = some (0, σ) ∧ fM_leaveOne τ 1 = some (0, τ)) ∨
    ∃ σ' τ', fC_makeRoomToMoveOff σ = some (1, σ') ∧ fM_leaveOne τ 1 = some (1, τ') ∧ tp_Inv σ' ∧ tp_Rel tp_noX σ' τ' ∧ τ' 0 = τ 0 ∧ tp_mu σ' = tp_mu σ ∧ tp_g3 σ' := by
  rw [tp_C_rto I, tp_M_lo1 I R]
  have hSO : ∀ d c, d < 12 → c < 400 → tp_pS σ d c = true → tp_pO σ d c = true := fun d c hd hc h => by
    rw [tp_pS, Bool.and_eq_true, Option.isSome_iff_exists] at h
    obtain ⟨h1, e, he⟩ := h
    obtain ⟨_, k1, k2, _⟩ := tp_findF_some he
    obtain ⟨q1, q2, q3, q4, _⟩ := tp_pR_iff.mp k2
    have hed : e ≠ d := fun z => q1 (by rw [z])
    rw [tp_ot_on (I.vv hc) hd (by omega) h1 hed, decide_eq_true_eq] at q2
    rw [tp_pO, h1, q2, Bool.true_and]
    exact (tp_swr_n (by omega)).mpr ⟨q3, q4⟩
  cases hf : tp_findF (tp_pP σ) 12 0 with
  | none =>
    have hno := tp_findF_none hf
    have hq : tp_findF (tp_pT σ) 12 0 = none := tp_findF_no (fun d hd => by
      cases h : tp_pT σ d with
      | false => rfl
      | true =>
        exfalso
        rw [tp_pT, Bool.and_eq_true, Option.isSome_iff_exists] at h
        obtain ⟨h1, c, hc⟩ := h
        obtain ⟨_, k1, k2, _⟩ := tp_findF_some hc
        have k := hno d (by omega) (by omega)
        rw [tp_pP, h1, Bool.true_and] at k
        have k0 : tp_findF (tp_pO σ d) 400 0 = none := by
          cases h2 : tp_findF (tp_pO σ d) 400 0 with
          | none => rfl
          | some c => rw [h2] at k; cases k
        have := tp_findF_none k0 c (by omega) (by omega)
        rw [hSO d c hd (by omega) k2] at this
        cases this)
    exact .inl ⟨rfl, by rw [hq]; rfl⟩
  | some d =>
    obtain ⟨_, d1, d2, d3⟩ := tp_findF_some hf
    have hd : d < 12 := by omega
    rw [tp_pP, Bool.and_eq_true, decide_eq_true_eq, Option.isSome_iff_exists] at d2
    obtain ⟨hl, c, hfc⟩ := d2
    obtain ⟨_, c1', c2, c3⟩ := tp_findF_some hfc
    have hc : c < 400 := by omega
    obtain ⟨oc, D, hD, eD, sD, fD⟩ := tp_pO_d I hc c2
    have hDd : D ≠ d := fun z => hl (by rw [← z]; exact (tp_sy_iff.mp sD).2)
    have hall : ∀ e, e < 12 → tp_sy σ e = true → 0 < tp_fr σ e → e = D := fun e he hs hfr => by
      have k := tp_tk_no (ho d hd hl c hc oc) he hs hfr
      have hed : e ≠ d := fun z => hl (by rw [← z]; exact (tp_sy_iff.mp hs).2)
      rw [tp_ot_on (I.vv hc) hd he oc hed, eD, decide_eq_true_eq, tp_nI_eq (by omega) (by omega)] at k
      exact k.symm
    rcases tp_room_sim I R hD ((tp_fr_pos I hD).mp fD) with ⟨h1, b1, b2⟩ | ⟨c', a, σ', τ', hc', ha, h1, oa, oo, hs', b1, b2, I1, R1, t0, o1, ⟨s0, s2, s3, s6⟩, k1⟩
    · have hq : tp_findF (tp_pT σ) 12 0 = none := tp_findF_no (fun x hx => by
        cases h : tp_pT σ x with
        | false => rfl
        | true =>
          exfalso
          rw [tp_pT, Bool.and_eq_true, Option.isSome_iff_exists] at h
          obtain ⟨_, i, hi⟩ := h
          obtain ⟨_, q1, q2, _⟩ := tp_findF_some hi
          rw [tp_pS, Bool.and_eq_true, Option.isSome_iff_exists] at q2
          obtain ⟨_, e, he⟩ := q2
          obtain ⟨_, r1, r2, _⟩ := tp_findF_some he
          obtain ⟨_, _, hs, hfr, hr⟩ := tp_pR_iff.mp r2
          rw [hall e (by omega) hs hfr, h1] at hr; cases hr)
      refine .inl ⟨?_, by rw [hq]; rfl⟩
      show (tp_findF (tp_pO σ d) 400 0).elim none _ = _
      rw [hfc]
      show (fC_makeRoomBeside σ (tp_ot σ c d)).bind _ = _
      rw [eD, b1]; rfl
    · -- the class's candidates are the reference's
      have hfR : ∀ x i, x < 12 → i < 400 → σ 2 x ≠ 0 → tp_pO σ x i = true → tp_findF (tp_pR σ i (tp_nI x)) 12 0 = some D := fun x i hx hi hlx h => by
        obtain ⟨ox, E, hE, eE, sE, fE⟩ := tp_pO_d I hi h
        have : E = D := hall E hE sE fE
        rw [this] at eE
        have hDx : D ≠ x := fun z => hlx (by rw [← z]; exact (tp_sy_iff.mp sD).2)
        refine tp_findF_is hD (tp_pR_iff.mpr ⟨fun z => hDx ((tp_nI_eq (by omega) (by omega)).mp z), ?_, sD, fD, by rw [h1]; rfl⟩) (fun m hm => ?_)
        · rw [tp_ot_on (I.vv hi) hx hD ox hDx, eE]; exact decide_eq_true rfl
        · cases hp : tp_pR σ i (tp_nI x) m with
          | false => rfl
          | true =>
            obtain ⟨_, _, q3, q4, _⟩ := tp_pR_iff.mp hp
            have := hall m (by omega) q3 q4
            omega
      have hOS : ∀ x i, x < 12 → i < 400 → σ 2 x ≠ 0 → tp_pO σ x i = tp_pS σ x i := fun x i hx hi hlx => by
        cases h : tp_pO σ x i with
        | true => rw [tp_pS, (tp_pO_d I hi h).1, hfR x i hx hi hlx h]; rfl
        | false =>
          cases h2 : tp_pS σ x i with
          | false => rfl
          | true => rw [hSO x i hx hi h2] at h; cases h
      have hPT : ∀ x, x < 12 → tp_pP σ x = tp_pT σ x := fun x hx => by
        rw [tp_pP, tp_pT]
        by_cases z : σ 2 x = 0
        · rw [decide_eq_false (fun w => w z)]; rfl
        · rw [tp_findF_congr (p := tp_pO σ x) (q := tp_pS σ x) (fun m _ hm => hOS x m hx (by omega) z)]
      have hq : tp_findF (tp_pT σ) 12 0 = some d := by rw [← tp_findF_congr (p := tp_pP σ) (q := tp_pT σ) (fun m _ hm => hPT m (by omega))]; exact hf
      have hqc : tp_findF (tp_pS σ d) 400 0 = some c := by rw [← tp_findF_congr (p := tp_pO σ d) (q := tp_pS σ d) (fun m _ hm => hOS d m hd (by omega) hl)]; exact hfc
      have oD : tp_oN σ c D = true := by rw [tp_ot_on (I.vv hc) hd hD oc hDd, eD]; exact decide_eq_true rfl
      have hcc : c ≠ c' := fun z => by rw [← z, oD] at oo; cases oo
      have haD : a ≠ D := fun z => by rw [z, oo] at oa; cases oa
      have had : a ≠ d := fun z => hl (by rw [← z]; exact (tp_sy_iff.mp hs').2)
      have ocx : ∀ e, e < 12 → tp_oN σ' c e = tp_oN σ c e := fun e he => by rw [o1 c e he, tp_mvO, if_neg hcc]
      obtain ⟨m1, m2⟩ := tp_mu_room I I1 hc' ha hD oa oo hs' sD o1 s2
      have ca := k1 a ha
      rw [decide_eq_true rfl, decide_eq_false haD, show (true).toNat = 1 from rfl, show (false).toNat = 0 from rfl] at ca
      refine .inr ⟨σ', τ', ?_, ?_, I1, R1, t0, m1, fun i hi => ?_, d, c, hd, hc, by rw [s2]; exact hl, by rw [ocx d hd]; exact oc, ?_⟩
      · show (tp_findF (tp_pO σ d) 400 0).elim none _ = _
        rw [hfc]
        show (fC_makeRoomBeside σ (tp_ot σ c d)).bind _ = _
        rw [eD, b1, Option.bind_some]
        show (if tp_nI a = -1 then _ else _) = _
        rw [if_neg (tp_nI_m (by omega))]
      · rw [hq]
        show (tp_findF (tp_pS σ d) 400 0).elim none _ = _
        rw [hqc]
        show fM_roomFor τ (tp_nI c) (tp_nI d) = _
        rw [tp_M_rf I R hc, hfR d c hd hc hl c2]
        show (fM_makeRoom τ (tp_nI D)).bind _ = _
        rw [b2]; rfl
      · rw [m2 i hi]
        cases hg : tp_dg σ i with
        | false => rfl
        | true =>
          exfalso
          have k := tp_tk_no (hm i hi hg) hD sD fD
          have := hw i hi hg D hD k sD fD
          rw [h1] at this; cases this
      · refine tp_tk_of ha ?_ ?_ (tp_fr_room (D := D) I1 ha s0 (by omega) (I.pl ha).2.2)
        · rw [ocx a ha, tp_ot_on (I.vv hc) hd ha oc had, eD]
          exact decide_eq_false (fun z => haD ((tp_nI_eq (by omega) (by omega)).mp z).symm)
        · rw [tp_sy_iff, s0, s2]; exact tp_sy_iff.mp hs'
theorem tp_step_sim {σ τ : tp_St} (I : tp_Inv σ) (R : tp_Rel tp_noX σ τ) : ∃ r σ' τ', fC_nextStep σ = some (r, σ') ∧ fM_doStep τ = some (r, τ') ∧ tp_Inv σ' ∧ tp_Rel tp_noX σ' τ' ∧ τ' 0 = τ 0 ∧
    (r = 0 ∨ (0 < r ∧ (tp_mu σ' < tp_mu σ ∨ (tp_mu σ' = tp_mu σ ∧ (tp_g1 σ' ∨ tp_g3 σ'))))) ∧ ((tp_g1 σ ∨ tp_g3 σ) → tp_mu σ' < tp_mu σ) := by
  rw [fC_nextStep, fM_doStep]
  rcases tp_mend_sim I R with ⟨hm, a1, a2⟩ | ⟨σ', τ', a1, a2, I1, R1, t1, m1⟩
  · rw [a1, a2, Option.bind_some, Option.bind_some]
    show ∃ r σ' τ', (if (0 : Int32) = 0 then _ else _) = _ ∧ (if (0 : Int32) = 0 then _ else _) = _ ∧ _
    rw [if_pos rfl, if_pos rfl]
    have ng1 : ¬ tp_g1 σ := fun ⟨c, hc, h1, h2⟩ => by rw [hm c hc h1] at h2; cases h2
    rcases tp_rtm_sim I R hm with ⟨hw, b1, b2⟩ | ⟨σ', τ', b1, b2, I1, R1, t1, m1, hg, c0, hc0, hg0⟩
    · rw [b1, b2, Option.bind_some, Option.bind_some]
      show ∃ r σ' τ', (if (0 : Int32) = 0 then _ else _) = _ ∧ (if (0 : Int32) = 0 then _ else _) = _ ∧ _
      rw [if_pos rfl, if_pos rfl]
      rcases tp_off_sim I R with ⟨ho, c1, c2⟩ | ⟨d, σ', τ', c1, c2, I1, R1, t1, m1⟩
      · rw [c1, c2, Option.bind_some, Option.bind_some]
        show ∃ r σ' τ', (if (0 : Int32) = 0 then _ else _) = _ ∧ (if (0 : Int32) = 0 then _ else _) = _ ∧ _
        rw [if_pos rfl, if_pos rfl]
        have ng3 : ¬ tp_g3 σ := fun ⟨_, d, c, hd, hc, h1, h2, h3⟩ => by rw [ho d hd h1 c hc h2] at h3; cases h3
        rcases tp_rto_sim I R hm hw ho with ⟨d1, d2⟩ | ⟨σ', τ', d1, d2, I1, R1, t1, m1, hg⟩
        · obtain ⟨τ', e1, e2, e3⟩ := tp_M_tidy I R
          refine ⟨0, σ, τ', ?_, ?_, I, e2, e3, .inl rfl, fun z => (z.elim ng1 ng3).elim⟩
          · rw [d1]; rfl
          · rw [d2, Option.bind_some]
            show (if (0 : Int32) = 0 then _ else _) = _
            rw [if_pos rfl, e1]; rfl
        · obtain ⟨τ2, e1, e2, e3⟩ := tp_M_tidy I1 R1
          refine ⟨4, σ', τ2, ?_, ?_, I1, e2, by rw [e3]; exact t1, .inr ⟨by decide, .inr ⟨m1, .inr hg⟩⟩, fun z => (z.elim ng1 ng3).elim⟩
          · rw [d1]; rfl
          · rw [d2, Option.bind_some]
            show (if (1 : Int32) = 0 then _ else _) = _
            rw [if_neg (by decide), e1]; rfl
      · obtain ⟨τ2, e1, e2, e3⟩ := tp_M_tidy I1 R1
        refine ⟨3, σ', τ2, ?_, ?_, I1, e2, by rw [e3]; exact t1, .inr ⟨by decide, .inl m1⟩, fun _ => m1⟩
        · rw [c1]; rfl
        · rw [c2, Option.bind_some]
          show (if (1 : Int32) = 0 then _ else _) = _
          rw [if_neg (by decide), e1]; rfl
    · obtain ⟨τ2, e1, e2, e3⟩ := tp_M_tidy I1 R1
      have ng3 : ¬ tp_g3 σ := fun ⟨h, _⟩ => by rw [h c0 hc0] at hg0; cases hg0
      refine ⟨2, σ', τ2, ?_, ?_, I1, e2, by rw [e3]; exact t1, .inr ⟨by decide, .inr ⟨m1, .inl hg⟩⟩, fun z => (z.elim ng1 ng3).elim⟩
      · rw [b1]; rfl
      · rw [b2, Option.bind_some]
        show (if (1 : Int32) = 0 then _ else _) = _
        rw [if_neg (by decide), e1]; rfl
  · obtain ⟨τ2, e1, e2, e3⟩ := tp_M_tidy I1 R1
    refine ⟨1, σ', τ2, ?_, ?_, I1, e2, by rw [e3]; exact t1, .inr ⟨by decide, .inl m1⟩, fun _ => m1⟩
    · rw [a1]; rfl
    · rw [a2, Option.bind_some]
      show (if (1 : Int32) = 0 then _ else _) = _
      rw [if_neg (by decide), e1]; rfl
