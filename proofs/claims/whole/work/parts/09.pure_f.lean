def tp_wt (σ : tp_St) (c : Nat) : Nat := (tp_dg σ c).toNat + tp_cntF (fun e => tp_oN σ c e && decide (σ 2 e ≠ 0)) 12
def tp_mu (σ : tp_St) : Nat := tp_sumF (tp_wt σ) 400
theorem tp_mu_le (σ : tp_St) : tp_mu σ ≤ 5200 := by
  have h := tp_sumF_le (f := tp_wt σ) (b := 13) (n := 400) (fun i _ => by
    have h1 : (tp_dg σ i).toNat ≤ 1 := by cases tp_dg σ i <;> decide
    have h2 := tp_cntF_le (fun e => tp_oN σ i e && decide (σ 2 e ≠ 0)) 12
    unfold tp_wt
    omega)
  unfold tp_mu
  omega
def tp_tk (σ : tp_St) (c : Nat) : Bool := (tp_eM (tp_qO σ c) (tp_fr σ) 12).isSome
theorem tp_tk_of {σ : tp_St} {c e : Nat} (he : e < 12) (ho : tp_oN σ c e = false) (hs : tp_sy σ e = true) (hf : 0 < tp_fr σ e) : tp_tk σ c = true := by
  obtain ⟨d, hd⟩ := tp_eM_ex (q := tp_qO σ c) (f := tp_fr σ) he (by rw [tp_qO, ho, hs]; rfl) hf
  rw [tp_tk, hd]; rfl
theorem tp_tk_no {σ : tp_St} {c e : Nat} (h : tp_tk σ c = false) (he : e < 12) (hs : tp_sy σ e = true) (hf : 0 < tp_fr σ e) : tp_oN σ c e = true := by
  cases ho : tp_oN σ c e with
  | true => rfl
  | false => rw [tp_tk_of he ho hs hf] at h; cases h
theorem tp_tk_some {σ : tp_St} {c : Nat} (h : tp_tk σ c = true) : ∃ e, tp_eM (tp_qO σ c) (tp_fr σ) 12 = some e ∧ e < 12 ∧ tp_oN σ c e = false ∧ tp_sy σ e = true ∧ 0 < tp_fr σ e := by
  rw [tp_tk, Option.isSome_iff_exists] at h
  obtain ⟨e, he⟩ := h
  obtain ⟨h1, h2, h3⟩ := tp_eM_some he
  rw [tp_qO, Bool.and_eq_true, Bool.not_eq_true'] at h2
  exact ⟨e, he, h1, h2.1, h2.2, h3⟩
theorem tp_tk_none {σ : tp_St} {c : Nat} (h : tp_tk σ c = false) : tp_eM (tp_qO σ c) (tp_fr σ) 12 = none := by
  rw [tp_tk] at h
  cases he : tp_eM (tp_qO σ c) (tp_fr σ) 12 with
  | none => rfl
  | some e => rw [he] at h; cases h
theorem tp_dg_V {σ : tp_St} {c : Nat} (hV : tp_VV (σ 4 c) (σ 5 c)) (h : tp_dg σ c = true) : ∃ a, a < 12 ∧ σ 4 c = tp_nI a ∧ σ 5 c = -1 := by
  have h1 : tp_nc σ c = 1 := of_decide_eq_true h
  rcases hV with ⟨h2, h3⟩ | ⟨a, ha, h2, h3⟩ | ⟨a, b, hab, hb, h2, h3⟩
  · rw [tp_nc, h2, if_pos rfl] at h1; omega
  · exact ⟨a, ha, h2, h3⟩
  · rw [tp_nc, h2, h3, if_neg (tp_nI_m (by omega)), if_neg (tp_nI_m (by omega))] at h1; omega
theorem tp_oN_1 {σ : tp_St} {c a e : Nat} (h4 : σ 4 c = tp_nI a) (h5 : σ 5 c = -1) (ha : a < 12) (he : e < 12) : tp_oN σ c e = decide (e = a) := by
  rw [tp_oN, h4, h5, decide_eq_false (tp_nI_m' (i := e) (by omega)), Bool.or_false]
  exact decide_eq_decide.mpr ⟨fun z => ((tp_nI_eq (by omega) (by omega)).mp z).symm, fun z => by rw [z]⟩
theorem tp_dg_ex {σ : tp_St} (I : tp_Inv σ) {c : Nat} (hc : c < 400) (h : tp_dg σ c = true) : σ 3 c = 1 := by
  obtain ⟨a, ha, h4, h5⟩ := tp_dg_V (I.vv hc) h
  exact I.ex hc (by rw [h4]; exact tp_nI_m (by omega))
theorem tp_qBO1 {σ : tp_St} {c a : Nat} (h4 : σ 4 c = tp_nI a) (h5 : σ 5 c = -1) (ha : a < 12) : tp_eM (tp_qB σ (σ 4 c)) (tp_fr σ) 12 = tp_eM (tp_qO σ c) (tp_fr σ) 12 :=
  tp_eM_congr (fun e he => by
    rw [tp_qB, tp_qO, tp_oN_1 h4 h5 ha he, h4]
    congr 1
    by_cases z : e = a
    · rw [z, decide_eq_true rfl, decide_eq_false (fun w => w rfl)]; rfl
    · rw [decide_eq_false z, decide_eq_true (show tp_nI e ≠ tp_nI a from fun w => z ((tp_nI_eq (by omega) (by omega)).mp w))]; rfl)
theorem tp_mv_cnt {p : Nat → Bool} {a b : Nat} (ha : a < 12) (hb : b < 12) (pa : p a = true) (pb : p b = false) : tp_cntF (fun e => (p e && !decide (e = a)) || decide (e = b)) 12 = tp_cntF p 12 := by
  have hab : b ≠ a := fun z => by rw [z, pa] at pb; cases pb
  have k1 : tp_sumF (fun e => (p e && !decide (e = a)).toNat) 12 + (p a).toNat = tp_sumF (fun e => (p e).toNat) 12 + (p a && !decide (a = a)).toNat := tp_sumF_upd (f := fun e => (p e && !decide (e = a)).toNat) (g := fun e => (p e).toNat) (c := a) (n := 12) ha (fun e _ hne => by show (p e && !decide (e = a)).toNat = _; rw [decide_eq_false hne]; exact congrArg Bool.toNat (Bool.and_true _))
  have k2 : tp_sumF (fun e => ((p e && !decide (e = a)) || decide (e = b)).toNat) 12 + (p b && !decide (b = a)).toNat = tp_sumF (fun e => (p e && !decide (e = a)).toNat) 12 + ((p b && !decide (b = a)) || decide (b = b)).toNat := tp_sumF_upd (f := fun e => ((p e && !decide (e = a)) || decide (e = b)).toNat) (g := fun e => (p e && !decide (e = a)).toNat) (c := b) (n := 12) hb (fun e _ hne => by show ((p e && !decide (e = a)) || decide (e = b)).toNat = _; rw [decide_eq_false hne, Bool.or_false])
  have e1 : (p a && !decide (a = a)).toNat = 0 := by rw [decide_eq_true rfl, pa]; rfl
  have e2 : (p b && !decide (b = a)).toNat = 0 := by rw [pb]; rfl
  have e3 : ((p b && !decide (b = a)) || decide (b = b)).toNat = 1 := by rw [decide_eq_true (rfl : b = b), Bool.or_true]; rfl
  have e4 : (p a).toNat = 1 := by rw [pa]; rfl
  show tp_sumF (fun e => ((p e && !decide (e = a)) || decide (e = b)).toNat) 12 = tp_sumF (fun e => (p e).toNat) 12
  rw [e1, e4] at k1
  rw [e2, e3] at k2
  omega
def tp_pM (σ : tp_St) (c : Nat) : Bool := tp_dg σ c && tp_tk σ c
theorem tp_C_mend {σ : tp_St} (I : tp_Inv σ) : fC_mendOne σ = (tp_findF (tp_pM σ) 400 0).elim (some (0, σ)) (fun c => (fC_addCopy σ (tp_nI c) (tp_enc (tp_eM (tp_qO σ c) (tp_fr σ) 12))).bind fun q => some (1, q)) := by
  refine tp_find_loop0 (F := fun n x => fC_mendOne_L2 n x σ) (N := 400) ?_ ?_
  · show fC_mendOne_L2 1 (tp_nI 400) σ = _
    rw [fC_mendOne_L2, if_pos (by decide)]
  · intro n i hi
    show fC_mendOne_L2 (n + 1) (tp_nI i) σ = _
    rw [fC_mendOne_L2, if_neg (tp_g4 hi), tp_C_deg hi, Option.bind_some, tp_if_bI, tp_pM]
    cases hg : tp_dg σ i with
    | false => rfl
    | true =>
      obtain ⟨a, ha, h4, h5⟩ := tp_dg_V (I.vv hi) hg
      rw [if_pos rfl, if_neg (tp_b4 hi), tp_t4 hi, tp_C_emp, Option.bind_some, tp_qBO1 h4 h5 ha, Bool.true_and, tp_tk]
      cases he : tp_eM (tp_qO σ i) (tp_fr σ) 12 with
      | none => rfl
      | some e => 
        show (if tp_nI e = -1 then _ else _) = _
        rw [if_neg (tp_nI_m (by have := tp_eM_12 (Nat.le_refl _) he; omega))]; rfl
theorem tp_M_mend {σ τ : tp_St} (I : tp_Inv σ) (R : tp_Rel tp_noX σ τ) : fM_copyOne τ = (tp_findF (tp_pM σ) 400 0).elim (some ((0 : Int32), τ)) (fun c => some ((1 : Int32), tp_up τ 4 c (τ 4 c + 1 <<< (tp_enc (tp_eM (tp_qO σ c) (tp_fr σ) 12) &&& 31)))) := by
  refine tp_find_loop0 (F := fun n x => fM_copyOne_L2 n x τ) (N := 400) ?_ ?_
  · show fM_copyOne_L2 1 (tp_nI 400) τ = _
    rw [fM_copyOne_L2, if_pos (by decide)]
  · intro n i hi
    show fM_copyOne_L2 (n + 1) (tp_nI i) τ = _
    rw [fM_copyOne_L2, if_neg (tp_g4 hi), if_neg (tp_b4 hi), tp_t4 hi, R.th hi, tp_M_howMany I R hi, Option.bind_some, tp_pM]
    have hn := tp_nc_lt σ i
    cases hg : tp_dg σ i with
    | false =>
      have : ¬ tp_nI (tp_nc σ i) = 1 := fun z => by
        have z' := (tp_nI_eq (j := 1) (by omega) (by omega)).mp z
        rw [tp_dg, decide_eq_true z'] at hg; cases hg
      rw [if_neg this]; exact ite_self _
    | true =>
      have : tp_nI (tp_nc σ i) = 1 := by rw [show tp_nc σ i = 1 from of_decide_eq_true hg]; rfl
      rw [if_neg (by rw [tp_dg_ex I hi hg]; decide), if_pos this, tp_M_emp2 I R hi, Option.bind_some, Bool.true_and, tp_tk]
      cases he : tp_eM (tp_qO σ i) (tp_fr σ) 12 with
      | none => rfl
      | some e =>
        show (if tp_nI e < 0 then _ else _) = _
        rw [if_neg (tp_nI_nn (by have := tp_eM_12 (Nat.le_refl _) he; omega))]; rfl
theorem tp_mend_sim {σ τ : tp_St} (I : tp_Inv σ) (R : tp_Rel tp_noX σ τ) :
    ((∀ c, c < 400 → tp_dg σ c = true → tp_tk σ c = false) ∧ fC_mendOne σ = some (0, σ) ∧ fM_copyOne τ = some (0, τ)) ∨
    ∃ σ' τ', fC_mendOne σ = some (1, σ') ∧ fM_copyOne τ = some (1, τ') ∧ tp_Inv σ' ∧ tp_Rel tp_noX σ' τ' ∧ τ' 0 = τ 0 ∧ tp_mu σ' < tp_mu σ := by
  rw [tp_C_mend I, tp_M_mend I R]
  cases hf : tp_findF (tp_pM σ) 400 0 with
  | none =>
    refine .inl ⟨fun c hc h => ?_, rfl, rfl⟩
    have := tp_findF_none hf c (by omega) (by omega)
    rw [tp_pM, h, Bool.true_and] at this
    exact this
  | some c =>
    obtain ⟨_, k1, k2, _⟩ := tp_findF_some hf
    have hc : c < 400 := by omega
    rw [tp_pM, Bool.and_eq_true] at k2
    obtain ⟨e, he, h1, h2, h3, h4⟩ := tp_tk_some k2.2
    have hn : tp_nc σ c = 1 := of_decide_eq_true k2.1
    obtain ⟨σ', r1, I1, o1, ⟨p0, p2, p3, p6, p7⟩, c1, R1⟩ := tp_add_spec I hc h1 (tp_dg_ex I hc k2.1) (by omega) h2 ((tp_fr_pos I h1).mp h4)
    refine .inr ⟨σ', _, ?_, ?_, I1, R1 tp_noX τ R, rfl, ?_⟩
    · show (fC_addCopy σ (tp_nI c) (tp_enc (tp_eM (tp_qO σ c) (tp_fr σ) 12))).bind _ = _
      rw [he]
      show (fC_addCopy σ (tp_nI c) (tp_nI e)).bind _ = _
      rw [r1]; rfl
    · show some ((1 : Int32), tp_up τ 4 c (τ 4 c + 1 <<< (tp_enc (tp_eM (tp_qO σ c) (tp_fr σ) 12) &&& 31))) = _
      rw [he]
      show some ((1 : Int32), tp_up τ 4 c (τ 4 c + 1 <<< (tp_nI e &&& 31))) = _
      rw [tp_bt_n h1]
    · have kw : ∀ i, i < 400 → i ≠ c → tp_wt σ' i = tp_wt σ i := fun i hi hne => by
        have hoi : ∀ x, x < 12 → tp_oN σ' i x = tp_oN σ i x := fun x hx => by rw [o1 i x hx, decide_eq_false hne, Bool.false_and, Bool.or_false]
        unfold tp_wt tp_dg
        rw [← tp_nc_cnt (I1.vv hi), ← tp_nc_cnt (I.vv hi), p2]
        rw [show tp_cntF (fun x => tp_oN σ' i x) 12 = tp_cntF (fun x => tp_oN σ i x) 12 from tp_cntF_congr (fun x hx => by rw [hoi x hx]), show tp_cntF (fun x => tp_oN σ' i x && decide (σ 2 x ≠ 0)) 12 = tp_cntF (fun x => tp_oN σ i x && decide (σ 2 x ≠ 0)) 12 from tp_cntF_congr (fun x hx => by rw [hoi x hx])]
      have k := tp_sumF_upd (f := tp_wt σ') (g := tp_wt σ) (c := c) (n := 400) hc kw
      have hlv : tp_cntF (fun x => tp_oN σ' c x && decide (σ' 2 x ≠ 0)) 12 = tp_cntF (fun x => tp_oN σ c x && decide (σ 2 x ≠ 0)) 12 := tp_cntF_congr (fun x hx => by
        rw [o1 c x hx, p2]
        by_cases z : x = e
        · rw [z, (tp_sy_iff.mp h3).2, decide_eq_false (fun w : (0 : Int32) ≠ 0 => w rfl), Bool.and_false, Bool.and_false]
        · rw [decide_eq_false z, Bool.and_false, Bool.or_false])
      have hn2 : tp_nc σ' c = 2 := by
        rw [← tp_nc_cnt (I1.vv hc)]
        have q := tp_sumF_upd (f := fun x => (tp_oN σ' c x).toNat) (g := fun x => (tp_oN σ c x).toNat) (c := e) (n := 12) h1 (fun x hx hne => by show (tp_oN σ' c x).toNat = _; rw [o1 c x hx, decide_eq_false hne, Bool.and_false, Bool.or_false])
        have q1 : tp_oN σ' c e = true := by rw [o1 c e h1, decide_eq_true rfl, decide_eq_true rfl, Bool.and_true, Bool.or_true]
        have q2 : tp_cntF (fun x => tp_oN σ' c x) 12 + (tp_oN σ c e).toNat = tp_cntF (fun x => tp_oN σ c x) 12 + (tp_oN σ' c e).toNat := q
        rw [tp_nc_cnt (I.vv hc), h2, q1] at q2
        have t1 : (true).toNat = 1 := rfl
        have t2 : (false).toNat = 0 := rfl
        omega
      have w1 : tp_wt σ c = 1 + tp_cntF (fun x => tp_oN σ c x && decide (σ 2 x ≠ 0)) 12 := by unfold tp_wt; rw [k2.1]; rfl
      have w2 : tp_wt σ' c = 0 + tp_cntF (fun x => tp_oN σ c x && decide (σ 2 x ≠ 0)) 12 := by unfold tp_wt; rw [hlv, tp_dg, hn2]; rfl
      unfold tp_mu
      omega
theorem tp_mu_room {σ σ' : tp_St} (I : tp_Inv σ) (I1 : tp_Inv σ') {c a D : Nat} (hc : c < 400) (ha : a < 12) (hD : D < 12) (oa : tp_oN σ c a = true) (oD : tp_oN σ c D = false) (sa : tp_sy σ a = true) (sD : tp_sy σ D = true) (o1 : ∀ c' e, e < 12 → tp_oN σ' c' e = tp_mvO σ c a D c' e) (p2 : σ' 2 = σ 2) :
    tp_mu σ' = tp_mu σ ∧ (∀ i, i < 400 → tp_dg σ' i = tp_dg σ i) := by
  have hn : ∀ i, i < 400 → tp_nc σ' i = tp_nc σ i := fun i hi => by
    rw [← tp_nc_cnt (I1.vv hi), ← tp_nc_cnt (I.vv hi)]
    by_cases z : i = c
    · rw [z, show tp_cntF (fun e => tp_oN σ' c e) 12 = tp_cntF (fun e => (tp_oN σ c e && !decide (e = a)) || decide (e = D)) 12 from tp_cntF_congr (fun e he => by rw [o1 c e he, tp_mvO, if_pos rfl])]
      exact tp_mv_cnt ha hD oa oD
    · exact tp_cntF_congr (fun e he => by rw [o1 i e he, tp_mvO, if_neg z])
  have hd : ∀ i, i < 400 → tp_dg σ' i = tp_dg σ i := fun i hi => by rw [tp_dg, tp_dg, hn i hi]
  refine ⟨tp_sumF_congr (fun i hi => ?_), hd⟩
  unfold tp_wt
  rw [hd i hi, p2]
  congr 1
  refine tp_cntF_congr (fun e he => ?_)
  rw [o1 i e he, tp_mvO]
  by_cases z : i = c
  · rw [if_pos z, z]
    by_cases w : e = a
    · rw [w, (tp_sy_iff.mp sa).2, decide_eq_false (fun v : (0 : Int32) ≠ 0 => v rfl), Bool.and_false, Bool.and_false]
    · by_cases v : e = D
      · rw [v, (tp_sy_iff.mp sD).2, decide_eq_false (fun v : (0 : Int32) ≠ 0 => v rfl), Bool.and_false, Bool.and_false]
      · rw [decide_eq_false w, decide_eq_false v, Bool.not_false, Bool.and_true, Bool.or_false]
  · rw [if_neg z]
def tp_g1 (σ : tp_St) : Prop := ∃ c, c < 400 ∧ tp_dg σ c = true ∧ tp_tk σ c = true
def tp_g3 (σ : tp_St) : Prop := (∀ c, c < 400 → tp_dg σ c = false) ∧ ∃ d c, d < 12 ∧ c < 400 ∧ σ 2 d ≠ 0 ∧ tp_oN σ c d = true ∧ tp_tk σ c = true
def tp_pR (σ : tp_St) (c : Nat) (x : Int32) (e : Nat) : Bool := decide (tp_nI e ≠ x) && (tp_oN σ c e && (tp_sy σ e && (decide (0 < tp_fr σ e) && (tp_fR σ e).isSome)))
theorem tp_M_rf {σ τ : tp_St} (I : tp_Inv σ) (R : tp_Rel tp_noX σ τ) {c : Nat} (hc : c < 400) (x : Int32) : fM_roomFor τ (tp_nI c) x = (tp_findF (tp_pR σ c x) 12 0).elim (some (0, τ)) (fun e => (fM_makeRoom τ (tp_nI e)).bind fun q => some (1, q.2)) := by
  refine tp_find_loop0 (F := fun n y => fM_roomFor_L2 (tp_nI c) x n y τ) (N := 12) ?_ ?_
  · show fM_roomFor_L2 (tp_nI c) x 1 (tp_nI 12) τ = _
    rw [fM_roomFor_L2, if_pos (by decide)]
  · intro n e he
    show fM_roomFor_L2 (tp_nI c) x (n + 1) (tp_nI e) τ = _
    rw [fM_roomFor_L2, if_neg (tp_gd he), tp_M_isOn I R hc he, Option.bind_some, tp_if_bI, tp_M_stays R he, Option.bind_some, tp_if_bI, tp_M_freeOn I R he, Option.bind_some, tp_pR]
    by_cases y : tp_nI e = x
    · rw [if_pos y, decide_eq_false (fun w => w y)]; rfl
    · rw [if_neg y, decide_eq_true y, Bool.true_and]
      cases tp_oN σ c e with
      | false => rfl
      | true =>
        cases hs : tp_sy σ e with
        | false => rfl
        | true =>
          rw [if_pos rfl, if_pos rfl, Bool.true_and, Bool.true_and]
          by_cases z : 0 < tp_fr σ e
          · rw [if_neg (Int32.not_le.mpr z), decide_eq_true z, Bool.true_and]
            rcases tp_room_sim I R he ((tp_fr_pos I he).mp z) with ⟨h1, b1, b2⟩ | ⟨c', a, σ', τ', hc', ha, h1, oa, oo, hs', b1, b2, _⟩
            · rw [b2, Option.bind_some, h1]
              show (if (-1 : Int32) < 0 then _ else _) = _
              rw [if_pos (by decide)]; rfl
            · rw [b2, Option.bind_some, Option.bind_some, h1]
              show (if tp_nI a < 0 then _ else _) = _
              rw [if_neg (tp_nI_nn (by omega))]; rfl
          · rw [if_pos (Int32.not_lt.mp z), decide_eq_false z]; rfl
def tp_pW (σ : tp_St) (c : Nat) : Bool := tp_dg σ c && tp_swr σ (σ 4 c)
theorem tp_C_rtm {σ : tp_St} (I : tp_Inv σ) : fC_makeRoomToMend σ = (tp_findF (tp_pW σ) 400 0).elim (some (0, σ)) (fun c => (fC_makeRoomBeside σ (σ 4 c)).bind fun q => if q.1 = -1 then some (0, q.2) else some (1, q.2)) := by
  refine tp_find_loop0 (F := fun n x => fC_makeRoomToMend_L2 n x σ) (N := 400) ?_ ?_
  · show fC_makeRoomToMend_L2 1 (tp_nI 400) σ = _
    rw [fC_makeRoomToMend_L2, if_pos (by decide)]
  · intro n i hi
    show fC_makeRoomToMend_L2 (n + 1) (tp_nI i) σ = _
    rw [fC_makeRoomToMend_L2, if_neg (tp_g4 hi), tp_C_deg hi, Option.bind_some, tp_if_bI, if_neg (tp_b4 hi), tp_t4 hi, tp_C_swr (I.vv hi).l, Option.bind_some, tp_if_bI, tp_pW]
    cases tp_dg σ i with
    | false => rfl
    | true => cases tp_swr σ (σ 4 i) <;> rfl
def tp_pQ (σ : tp_St) (c : Nat) : Bool := tp_dg σ c && (tp_findF (tp_pR σ c (-1)) 12 0).isSome
theorem tp_M_rtm {σ τ : tp_St} (I : tp_Inv σ) (R : tp_Rel tp_noX σ τ) : fM_roomForOne τ = (tp_findF (tp_pQ σ) 400 0).elim (some (0, τ)) (fun c => fM_roomFor τ (tp_nI c) (-1)) := by
  refine tp_find_loop0 (F := fun n x => fM_roomForOne_L2 n x τ) (N := 400) ?_ ?_
  · show fM_roomForOne_L2 1 (tp_nI 400) τ = _
    rw [fM_roomForOne_L2, if_pos (by decide)]
  · intro n i hi
    show fM_roomForOne_L2 (n + 1) (tp_nI i) τ = _
    rw [fM_roomForOne_L2, if_neg (tp_g4 hi), if_neg (tp_b4 hi), tp_t4 hi, R.th hi, tp_M_howMany I R hi, Option.bind_some, tp_pQ]
    have hn := tp_nc_lt σ i
    cases hg : tp_dg σ i with
    | false =>
      have : ¬ tp_nI (tp_nc σ i) = 1 := fun z => by
        have z' := (tp_nI_eq (j := 1) (by omega) (by omega)).mp z
        rw [tp_dg, decide_eq_true z'] at hg; cases hg
      rw [if_neg this]; exact ite_self _
    | true =>
      have : tp_nI (tp_nc σ i) = 1 := by rw [show tp_nc σ i = 1 from of_decide_eq_true hg]; rfl
      rw [if_neg (by rw [tp_dg_ex I hi hg]; decide), if_pos this, tp_M_rf I R hi, Bool.true_and]
      cases hf : tp_findF (tp_pR σ i (-1)) 12 0 with
      | none => rfl
      | some e =>
        obtain ⟨_, k1, k2, _⟩ := tp_findF_some hf
        rw [tp_pR, Bool.and_eq_true, Bool.and_eq_true, Bool.and_eq_true, Bool.and_eq_true] at k2
        rcases tp_room_sim I R (show e < 12 by omega) ((tp_fr_pos I (by omega)).mp (of_decide_eq_true k2.2.2.2.1)) with ⟨h1, _⟩ | ⟨c', a, σ', τ', hc', ha, h1, oa, oo, hs', b1, b2, _⟩
        · rw [h1] at k2; exact absurd k2.2.2.2.2 (by decide)
        · show ((fM_makeRoom τ (tp_nI e)).bind fun q => some (1, q.2)).bind _ = (fM_makeRoom τ (tp_nI e)).bind fun q => some (1, q.2)
          rw [b2]; rfl
