def tp_pl (σ : tp_St) (d : Nat) : Nat := (σ 0 d).toNatClampNeg
theorem tp_Inv.pl {σ : tp_St} (I : tp_Inv σ) {d : Nat} (hd : d < 12) : σ 0 d = tp_nI (tp_pl σ d) ∧ tp_pl σ d ≤ 200 ∧ tp_cn σ d ≤ tp_pl σ d := by
  obtain ⟨P, h1, h2, h3⟩ := I.1 d hd
  have h4 : tp_pl σ d = P := by rw [tp_pl, h2, tp_nI_t (by omega)]
  rw [h4]; exact ⟨h2, h1, h3⟩
theorem tp_frN {σ : tp_St} (I : tp_Inv σ) {d : Nat} (hd : d < 12) : tp_fr σ d = tp_nI (tp_pl σ d - tp_cn σ d) := by
  obtain ⟨h1, h2, h3⟩ := I.pl hd
  rw [tp_fr, h1, I.2.1 d hd]
  exact (Int32.ofNat_sub _ _ h3).symm
theorem tp_fr_pos {σ : tp_St} (I : tp_Inv σ) {d : Nat} (hd : d < 12) : 0 < tp_fr σ d ↔ tp_cn σ d < tp_pl σ d := by
  obtain ⟨h1, h2, h3⟩ := I.pl hd
  rw [tp_frN I hd, tp_nI_pos (by omega)]
  omega
theorem tp_pl_pos {σ : tp_St} (I : tp_Inv σ) {d : Nat} (hd : d < 12) : 0 < σ 0 d ↔ 0 < tp_pl σ d := by
  obtain ⟨h1, h2, h3⟩ := I.pl hd
  rw [h1, tp_nI_pos (by omega)]
theorem tp_sy_iff {σ : tp_St} {d : Nat} : tp_sy σ d = true ↔ 0 < σ 0 d ∧ σ 2 d = 0 := by rw [tp_sy, Bool.and_eq_true, decide_eq_true_eq, decide_eq_true_eq]
theorem tp_oN_ex {σ : tp_St} (I : tp_Inv σ) {c d : Nat} (hc : c < 400) (hd : d < 12) (h : tp_oN σ c d = true) : σ 3 c = 1 := by
  rcases I.2.2.2 c hc with ⟨h0, h1, h2⟩ | ⟨h1, _⟩
  · rw [tp_oN, h1, h2, decide_eq_false (tp_nI_m' (i := d) (by omega))] at h; cases h
  · exact h1
def tp_Pt (σ σ' : tp_St) (c : Nat) (l g : Int32) (d : Nat) (x : Int32) : Prop :=
  (∀ k, σ' 4 k = if k = c then l else σ 4 k) ∧ (∀ k, σ' 5 k = if k = c then g else σ 5 k) ∧ (∀ k, σ' 1 k = if k = d then x else σ 1 k) ∧ σ' 0 = σ 0 ∧ σ' 2 = σ 2 ∧ σ' 3 = σ 3 ∧ σ' 6 = σ 6 ∧ σ' 7 = σ 7
theorem tp_Pt3 {σ : tp_St} {c d : Nat} {x y z : Int32} : tp_Pt σ (tp_up (tp_up (tp_up σ 4 c x) 5 c y) 1 d z) c x y d z := ⟨fun _ => rfl, fun _ => rfl, fun _ => rfl, rfl, rfl, rfl, rfl, rfl⟩
theorem tp_Pt2 {σ : tp_St} {c d : Nat} {x z : Int32} (h : σ 5 c = -1) : tp_Pt σ (tp_up (tp_up σ 4 c x) 1 d z) c x (-1) d z := ⟨fun _ => rfl, fun k => by
  show σ 5 k = if k = c then -1 else σ 5 k
  by_cases e : k = c
  · rw [if_pos e, e, h]
  · rw [if_neg e], fun _ => rfl, rfl, rfl, rfl, rfl, rfl⟩
theorem tp_Pt.oN {σ σ' : tp_St} {c d : Nat} {l g x : Int32} (h : tp_Pt σ σ' c l g d x) (c' e : Nat) : tp_oN σ' c' e = if c' = c then (decide (l = tp_nI e) || decide (g = tp_nI e)) else tp_oN σ c' e := by
  show (decide (σ' 4 c' = tp_nI e) || decide (σ' 5 c' = tp_nI e)) = _
  rw [h.1, h.2.1]
  by_cases z : c' = c
  · rw [if_pos z, if_pos z, if_pos z]
  · rw [if_neg z, if_neg z, if_neg z]; rfl
theorem tp_Pt.cn {σ σ' : tp_St} {c d : Nat} {l g x : Int32} (h : tp_Pt σ σ' c l g d x) (hc : c < 400) (e : Nat) : tp_cn σ' e + (tp_oN σ c e).toNat = tp_cn σ e + (decide (l = tp_nI e) || decide (g = tp_nI e)).toNat := by
  have := tp_sumF_upd (f := fun i => (tp_oN σ' i e).toNat) (g := fun i => (tp_oN σ i e).toNat) (n := 400) hc (fun i _ hne => by show (tp_oN σ' i e).toNat = (tp_oN σ i e).toNat; rw [h.oN i e, if_neg hne])
  have k := h.oN c e
  rw [if_pos rfl] at k
  rw [← k]; exact this
theorem tp_Pt.rel {σ σ' : tp_St} {c d : Nat} {l g x : Int32} (h : tp_Pt σ σ' c l g d x) {X : Nat → Prop} {τ : tp_St} (R : tp_Rel X σ τ) {m : Int32} (hm : m = tp_mK l g) : tp_Rel X σ' (tp_up τ 4 c m) := by
  obtain ⟨h1, h2, h3, h4, h5, h6, h7, h8⟩ := h
  refine ⟨fun e he => ?_, fun k hk => ?_, fun k hk => ?_, ?_⟩
  · rw [h4, h5]; exact R.1 e he
  · refine ⟨by rw [h6]; exact R.th hk, ?_⟩
    show (if k = c then m else τ 4 k) = _
    rw [h1, h2]
    by_cases e : k = c
    · rw [if_pos e, if_pos e, if_pos e, hm]
    · rw [if_neg e, if_neg e, if_neg e]; exact R.cp hk
  · rw [h7]; exact R.2.2.1 k hk
  · rw [h8]; exact R.2.2.2
theorem tp_Rel.mono {X Y : Nat → Prop} {σ τ : tp_St} (R : tp_Rel X σ τ) (h : ∀ d, d < 12 → X d → Y d) : tp_Rel Y σ τ :=
  ⟨fun d hd => ⟨(R.1 d hd).1.imp id (fun z => ⟨h d hd z.1, z.2⟩), (R.1 d hd).2⟩, R.2⟩
theorem tp_VV.other {l g : Int32} (h : tp_VV l g) : tp_VV g (-1) := by
  rcases h with ⟨_, h⟩ | ⟨a, ha, _, h⟩ | ⟨a, b, h1, h2, _, h⟩
  · exact .inl ⟨h, rfl⟩
  · exact .inl ⟨h, rfl⟩
  · exact .inr (.inl ⟨b, h2, h, rfl⟩)
theorem tp_VV.left {l g : Int32} (h : tp_VV l g) : tp_VV l (-1) := by
  rcases h with ⟨h, _⟩ | ⟨a, ha, h, _⟩ | ⟨a, b, h1, h2, h, _⟩
  · exact .inl ⟨h, rfl⟩
  · exact .inr (.inl ⟨a, ha, h, rfl⟩)
  · exact .inr (.inl ⟨a, by omega, h, rfl⟩)
theorem tp_nc_g {σ : tp_St} {c : Nat} (h : tp_VV (σ 4 c) (σ 5 c)) (hn : tp_nc σ c < 2) : σ 5 c = -1 := by
  rw [tp_nc] at hn
  rcases h with ⟨_, h⟩ | ⟨a, ha, _, h⟩ | ⟨a, b, h1, h2, h3, h4⟩
  · exact h
  · exact h
  · rw [h3, h4, if_neg (tp_nI_m (by omega)), if_neg (tp_nI_m (by omega))] at hn; omega
theorem tp_add_pick {σ : tp_St} {c d : Nat} (hV : tp_VV (σ 4 c) (σ 5 c)) (hc : c < 400) (hd : d < 12) (h5 : σ 5 c = -1) (ho : tp_oN σ c d = false) :
    ∃ σ' l g, fC_addCopy σ (tp_nI c) (tp_nI d) = some σ' ∧ tp_Pt σ σ' c l g d (σ 1 d + 1) ∧ tp_VV l g ∧ tp_mK l g = tp_mK (σ 4 c) (σ 5 c) + tp_bt (tp_nI d) ∧ ∀ e, e < 12 → (decide (l = tp_nI e) || decide (g = tp_nI e)) = (tp_oN σ c e || decide (e = d)) := by
  rw [fC_addCopy, if_neg (tp_b4 hc), tp_t4 hc, if_neg (tp_bd hd), if_neg (tp_bd hd), tp_td hd]
  have hne : ∀ e, e < 12 → decide ((-1 : Int32) = tp_nI e) = false := fun e he => decide_eq_false (tp_nI_m' (by omega))
  have hdd : ∀ e, e < 12 → decide (tp_nI d = tp_nI e) = decide (e = d) := fun e he => decide_eq_decide.mpr ⟨fun z => ((tp_nI_eq (by omega) (by omega)).mp z).symm, fun z => by rw [z]⟩
  rcases hV with ⟨h, _⟩ | ⟨a, ha, h, _⟩ | ⟨a, b, h1, h2, _, h⟩
  · rw [if_pos h]
    refine ⟨_, tp_nI d, -1, rfl, tp_Pt2 h5, .inr (.inl ⟨d, hd, rfl, rfl⟩), ?_, fun e he => ?_⟩
    · rw [h, h5, tp_mK, tp_mK, tp_bt_m, Int32.add_zero, Int32.zero_add]; exact (Int32.zero_add _).symm
    · rw [tp_oN, h, h5, hne e he, hdd e he, Bool.or_false, Bool.or_false, Bool.false_or]
  · have had : a ≠ d := fun z => by
      rw [tp_oN, h, z, decide_eq_true rfl] at ho; cases ho
    have hae : ∀ e, e < 12 → decide (tp_nI a = tp_nI e) = decide (e = a) := fun e he => decide_eq_decide.mpr ⟨fun z => ((tp_nI_eq (by omega) (by omega)).mp z).symm, fun z => by rw [z]⟩
    rw [if_neg (by rw [h]; exact tp_nI_m (by omega)), h]
    rcases Nat.lt_or_gt_of_ne had with z | z
    · rw [if_neg (fun w => absurd ((tp_nI_lt (by omega) (by omega)).mp w) (by omega)), if_pos ((tp_nI_lt (by omega) (by omega)).mpr z)]
      refine ⟨_, tp_nI a, tp_nI d, rfl, tp_Pt3, .inr (.inr ⟨a, d, z, hd, rfl, rfl⟩), ?_, fun e he => ?_⟩
      · rw [h5, tp_mK, tp_mK, tp_bt_m, Int32.add_zero]
      · rw [tp_oN, h, h5, hne e he, Bool.or_false, hdd e he]
    · rw [if_pos ((tp_nI_lt (by omega) (by omega)).mpr z), if_neg (fun w => absurd ((tp_nI_lt (by omega) (by omega)).mp w) (by omega))]
      refine ⟨_, tp_nI d, tp_nI a, rfl, tp_Pt3, .inr (.inr ⟨d, a, z, ha, rfl, rfl⟩), ?_, fun e he => ?_⟩
      · rw [h5, tp_mK, tp_mK, tp_bt_m, Int32.add_zero]; exact Int32.add_comm _ _
      · rw [tp_oN, h, h5, hne e he, Bool.or_false, hdd e he, Bool.or_comm]
  · rw [h] at h5; exact absurd h5 (tp_nI_m (by omega))
theorem tp_add_spec {σ : tp_St} {c d : Nat} (I : tp_Inv σ) (hc : c < 400) (hd : d < 12) (h3 : σ 3 c = 1) (hn : tp_nc σ c < 2) (ho : tp_oN σ c d = false) (hf : tp_cn σ d < tp_pl σ d) :
    ∃ σ', fC_addCopy σ (tp_nI c) (tp_nI d) = some σ' ∧ tp_Inv σ' ∧ (∀ c' e, e < 12 → tp_oN σ' c' e = (tp_oN σ c' e || (decide (c' = c) && decide (e = d)))) ∧
      (σ' 0 = σ 0 ∧ σ' 2 = σ 2 ∧ σ' 3 = σ 3 ∧ σ' 6 = σ 6 ∧ σ' 7 = σ 7) ∧ (∀ e, e < 12 → tp_cn σ' e = tp_cn σ e + (decide (e = d)).toNat) ∧ ∀ X τ, tp_Rel X σ τ → tp_Rel X σ' (tp_up τ 4 c (τ 4 c + tp_bt (tp_nI d))) := by
  obtain ⟨σ', l, g, e1, hP, hV, hm, hO⟩ := tp_add_pick (I.vv hc) hc hd (tp_nc_g (I.vv hc) hn) ho
  have hcn : ∀ e, e < 12 → tp_cn σ' e = tp_cn σ e + (decide (e = d)).toNat := by
    intro e he
    have k := hP.cn hc e
    rw [hO e he] at k
    by_cases z : e = d
    · rw [z, ho, decide_eq_true rfl] at k
      rw [z, decide_eq_true rfl]
      have t1 : (true).toNat = 1 := rfl
      have t2 : (false).toNat = 0 := rfl
      have t3 : (false || true).toNat = 1 := rfl
      omega
    · rw [decide_eq_false z, Bool.or_false] at k
      rw [decide_eq_false z]
      have t2 : (false).toNat = 0 := rfl
      omega
  have hP' := hP
  obtain ⟨p4, p5, p1, p0, p2, p3, p6, p7⟩ := hP'
  refine ⟨σ', e1, ⟨fun e he => ?_, fun e he => ?_, fun e he => ?_, fun k hk => ?_⟩, fun c' e he => ?_, ⟨p0, p2, p3, p6, p7⟩, hcn, fun X τ R => ?_⟩
  · obtain ⟨h1, h2, h4⟩ := I.pl he
    refine ⟨tp_pl σ e, h2, by rw [p0]; exact h1, ?_⟩
    rw [hcn e he]
    by_cases z : e = d
    · rw [z, decide_eq_true rfl]; exact hf
    · rw [decide_eq_false z, show (false).toNat = 0 from rfl, Nat.add_zero]; exact h4
  · rw [p1, hcn e he]
    by_cases z : e = d
    · rw [if_pos z, z, decide_eq_true rfl, I.2.1 d hd]; exact tp_nI_s _
    · rw [if_neg z, decide_eq_false z, show (false).toNat = 0 from rfl, Nat.add_zero]; exact I.2.1 e he
  · rw [p2]
    exact (I.2.2.1 e he).imp id (fun z => ⟨z.1, by rw [hcn e he]; omega⟩)
  · rw [p3, p4, p5]
    by_cases z : k = c
    · rw [if_pos z, if_pos z, z]; exact .inr ⟨h3, hV⟩
    · rw [if_neg z, if_neg z]; exact I.2.2.2 k hk
  · rw [hP.oN c' e]
    by_cases z : c' = c
    · rw [if_pos z, hO e he, z, decide_eq_true rfl, Bool.true_and]
    · rw [if_neg z, decide_eq_false z, Bool.false_and, Bool.or_false]
  · exact hP.rel R (by rw [R.cp hc, hm])
theorem tp_vn0 : vp_nar .boolean 0 = 0 := by decide +kernel
theorem tp_vn1 : vp_nar .boolean 1 = 1 := by decide +kernel
def tp_gone (σ : tp_St) (d : Nat) : tp_St := tp_up (tp_up σ 0 d 0) 2 d 0
theorem tp_C_takeAway {σ : tp_St} {d : Nat} (hd : d < 12) : fC_takeAway σ (tp_nI d) = some (tp_gone σ d) := by rw [fC_takeAway, if_neg (tp_bd hd), tp_td hd, tp_vn0]; rfl
theorem tp_C_hasLeft {σ : tp_St} {d : Nat} (hd : d < 12) : fC_hasLeft σ (tp_nI d) = some (tp_bI (decide (σ 2 d ≠ 0) && decide (σ 1 d = 0))) := by
  rw [fC_hasLeft, if_neg (tp_bd hd), tp_td hd]
  by_cases y : σ 2 d = 0
  · rw [if_pos y, decide_eq_false (fun z => z y)]; rfl
  · rw [if_neg y, decide_eq_true y]
    by_cases z : σ 1 d = 0
    · rw [if_pos z, decide_eq_true z]; rfl
    · rw [if_neg z, decide_eq_false z]; rfl
theorem tp_ot_V {σ : tp_St} {c d : Nat} (h : tp_VV (σ 4 c) (σ 5 c)) (hd : d < 12) (ho : tp_oN σ c d = true) :
    tp_VV (tp_ot σ c d) (-1) ∧ tp_mK (tp_ot σ c d) (-1) = tp_mK (σ 4 c) (σ 5 c) - tp_bt (tp_nI d) ∧ ∀ e, e < 12 → (decide (tp_ot σ c d = tp_nI e) || decide ((-1 : Int32) = tp_nI e)) = (tp_oN σ c e && !decide (e = d)) := by
  have hne : ∀ e, e < 12 → decide ((-1 : Int32) = tp_nI e) = false := fun e he => decide_eq_false (tp_nI_m' (by omega))
  have hee : ∀ a e, a < 12 → e < 12 → decide (tp_nI a = tp_nI e) = decide (e = a) := fun a e ha he => decide_eq_decide.mpr ⟨fun z => ((tp_nI_eq (by omega) (by omega)).mp z).symm, fun z => by rw [z]⟩
  have hq : ∀ x : Int32, tp_mK x (-1) = tp_bt x := fun x => by rw [tp_mK, tp_bt_m, Int32.add_zero]
  by_cases z : σ 4 c = tp_nI d
  · have e1 : tp_ot σ c d = σ 5 c := if_pos z
    rw [e1]
    refine ⟨h.other, ?_, fun e he => ?_⟩
    · rw [hq, z, tp_mK, Int32.add_comm, Int32.add_sub_cancel]
    · rw [hne e he, Bool.or_false, tp_oN, z, hee d e hd he]
      by_cases w : e = d
      · rw [w, decide_eq_true rfl]
        rcases h with ⟨h1, h2⟩ | ⟨a, ha, h1, h2⟩ | ⟨a, b, h1, h2, h3, h4⟩
        · rw [h2, hne d hd]; rfl
        · rw [h2, hne d hd]; rfl
        · have : a = d := (tp_nI_eq (by omega) (by omega)).mp (h3.symm.trans z)
          rw [h4, decide_eq_false (fun w => absurd ((tp_nI_eq (by omega) (by omega)).mp w) (by omega))]; rfl
      · rw [decide_eq_false w, Bool.false_or]; exact (Bool.and_true _).symm
  · have e1 : tp_ot σ c d = σ 4 c := if_neg z
    have z5 : σ 5 c = tp_nI d := by
      rw [tp_oN, decide_eq_false z, Bool.false_or, decide_eq_true_eq] at ho; exact ho
    rw [e1]
    refine ⟨h.left, ?_, fun e he => ?_⟩
    · rw [hq, z5, tp_mK, Int32.add_sub_cancel]
    · rw [hne e he, Bool.or_false, tp_oN, z5, hee d e hd he]
      by_cases w : e = d
      · rw [w, decide_eq_true rfl, decide_eq_false z]; rfl
      · rw [decide_eq_false w, Bool.or_false]; exact (Bool.and_true _).symm
theorem tp_Rel.gone {X : Nat → Prop} {σ τ : tp_St} {d : Nat} (R : tp_Rel X σ τ) (hd : d < 12) (hX : X d) (h0 : 0 < σ 0 d) (h2 : σ 2 d ≠ 0) : tp_Rel X (tp_gone σ d) τ := by
  refine ⟨fun e he => ?_, R.2⟩
  show (τ 1 e = (if e = d then 0 else σ 0 e) ∨ (X e ∧ (if e = d then 0 else σ 0 e) = 0 ∧ 0 < τ 1 e ∧ τ 2 e ≠ 0)) ∧ (0 < (if e = d then 0 else σ 0 e) → τ 2 e = (if e = d then 0 else σ 2 e))
  by_cases z : e = d
  · have hR := R.1 d hd
    rw [z]
    simp only [if_true]
    refine ⟨?_, fun w => absurd w (by decide)⟩
    rcases hR.1 with w | w
    · exact .inr ⟨hX, trivial, by rw [w]; exact h0, by rw [hR.2 h0]; exact h2⟩
    · exact absurd h0 (by rw [w.2.1]; decide)
  · simp only [if_neg z]; exact R.1 e he
theorem tp_drop_spec {σ : tp_St} {c d : Nat} (I : tp_Inv σ) (hc : c < 400) (hd : d < 12) (ho : tp_oN σ c d = true) :
    ∃ σ', fC_dropCopy σ (tp_nI c) (tp_nI d) = some σ' ∧ tp_Inv σ' ∧ (∀ c' e, e < 12 → tp_oN σ' c' e = (tp_oN σ c' e && !(decide (c' = c) && decide (e = d)))) ∧
      (σ' 3 = σ 3 ∧ σ' 6 = σ 6 ∧ σ' 7 = σ 7 ∧ σ' 4 c = tp_ot σ c d) ∧ (∀ e, e ≠ d → σ' 0 e = σ 0 e ∧ σ' 2 e = σ 2 e) ∧
      ((σ' 0 d = σ 0 d ∧ σ' 2 d = σ 2 d) ∨ (σ 2 d = 1 ∧ σ' 0 d = 0 ∧ σ' 2 d = 0)) ∧ (∀ e, e < 12 → tp_cn σ' e + (decide (e = d)).toNat = tp_cn σ e) ∧
      ∀ X τ, tp_Rel X σ τ → (σ 2 d ≠ 0 → X d) → tp_Rel X σ' (tp_up τ 4 c (τ 4 c - tp_bt (tp_nI d))) := by
  obtain ⟨hV, hm, hO⟩ := tp_ot_V (I.vv hc) hd ho
  have hP : tp_Pt σ (tp_up (tp_up (tp_up σ 4 c (tp_ot σ c d)) 5 c (-1)) 1 d (σ 1 d - 1)) c (tp_ot σ c d) (-1) d (σ 1 d - 1) := tp_Pt3
  have hcn : ∀ e, e < 12 → tp_cn (tp_up (tp_up (tp_up σ 4 c (tp_ot σ c d)) 5 c (-1)) 1 d (σ 1 d - 1)) e + (decide (e = d)).toNat = tp_cn σ e := by
    intro e he
    have k := hP.cn hc e
    rw [hO e he] at k
    by_cases z : e = d
    · rw [z, ho, decide_eq_true rfl] at k
      rw [z, decide_eq_true rfl]
      have t1 : (true).toNat = 1 := rfl
      have t3 : (true && !true).toNat = 0 := rfl
      omega
    · rw [decide_eq_false z] at k
      rw [decide_eq_false z]
      have t2 : (false).toNat = 0 := rfl
      have t3 : (tp_oN σ c e && !false) = tp_oN σ c e := Bool.and_true _
      rw [t3] at k
      omega
  have hd0 : 0 < tp_cn σ d := tp_cntF_pos (p := fun c => tp_oN σ c d) hc ho
  have hcd := hcn d hd
  rw [decide_eq_true rfl] at hcd
  have t1 : (true).toNat = 1 := rfl
  have h1d : σ 1 d - 1 = tp_nI (tp_cn σ d - 1) := by rw [I.2.1 d hd]; exact (Int32.ofNat_sub (tp_cn σ d) 1 hd0).symm
  have h3 : σ 3 c = 1 := tp_oN_ex I hc hd ho
  have hrun : fC_dropCopy σ (tp_nI c) (tp_nI d) = if (decide (σ 2 d ≠ 0) && decide (σ 1 d - 1 = 0)) then some (tp_gone (tp_up (tp_up (tp_up σ 4 c (tp_ot σ c d)) 5 c (-1)) 1 d (σ 1 d - 1)) d) else some (tp_up (tp_up (tp_up σ 4 c (tp_ot σ c d)) 5 c (-1)) 1 d (σ 1 d - 1)) := by
    rw [fC_dropCopy, tp_C_other hc, Option.bind_some, if_neg (tp_b4 hc), if_neg (tp_bd hd), tp_t4 hc, tp_td hd]
    show ((fC_hasLeft (tp_up (tp_up (tp_up σ 4 c (tp_ot σ c d)) 5 c (-1)) 1 d (σ 1 d - 1)) (tp_nI d)).bind fun q5 => if q5 = 0 then some (tp_up (tp_up (tp_up σ 4 c (tp_ot σ c d)) 5 c (-1)) 1 d (σ 1 d - 1)) else ((fC_takeAway (tp_up (tp_up (tp_up σ 4 c (tp_ot σ c d)) 5 c (-1)) 1 d (σ 1 d - 1)) (tp_nI d)).bind fun q8 => some q8)) = _
    rw [tp_C_hasLeft hd, Option.bind_some, tp_if_bI, tp_C_takeAway hd, Option.bind_some]
    show (if (decide (σ 2 d ≠ 0) && decide ((if d = d then σ 1 d - 1 else σ 1 d) = 0)) = true then _ else _) = _
    rw [if_pos rfl]
  have hon : ∀ c' e, e < 12 → tp_oN (tp_up (tp_up (tp_up σ 4 c (tp_ot σ c d)) 5 c (-1)) 1 d (σ 1 d - 1)) c' e = (tp_oN σ c' e && !(decide (c' = c) && decide (e = d))) := by
    intro c' e he
    rw [hP.oN c' e]
    by_cases z : c' = c
    · rw [if_pos z, hO e he, z, decide_eq_true rfl, Bool.true_and]
    · rw [if_neg z, decide_eq_false z, Bool.false_and, Bool.not_false, Bool.and_true]
  have hcm : ∀ e, e < 12 → e ≠ d → tp_cn (tp_up (tp_up (tp_up σ 4 c (tp_ot σ c d)) 5 c (-1)) 1 d (σ 1 d - 1)) e = tp_cn σ e := by
    intro e he z
    have k := hcn e he
    rw [decide_eq_false z] at k
    have t2 : (false).toNat = 0 := rfl
    omega
  have h1e : ∀ e, e < 12 → (if e = d then σ 1 d - 1 else σ 1 e) = tp_nI (tp_cn (tp_up (tp_up (tp_up σ 4 c (tp_ot σ c d)) 5 c (-1)) 1 d (σ 1 d - 1)) e) := by
    intro e he
    by_cases z : e = d
    · rw [if_pos z, z, show tp_cn (tp_up (tp_up (tp_up σ 4 c (tp_ot σ c d)) 5 c (-1)) 1 d (σ 1 d - 1)) d = tp_cn σ d - 1 from by omega]; exact h1d
    · rw [if_neg z, hcm e he z]; exact I.2.1 e he
  have h4k : ∀ k, k < 400 → (σ 3 k = 0 ∧ (if k = c then tp_ot σ c d else σ 4 k) = -1 ∧ (if k = c then (-1) else σ 5 k) = -1) ∨ (σ 3 k = 1 ∧ tp_VV (if k = c then tp_ot σ c d else σ 4 k) (if k = c then (-1) else σ 5 k)) := by
    intro k hk
    by_cases z : k = c
    · rw [if_pos z, if_pos z, z]; exact .inr ⟨h3, hV⟩
    · rw [if_neg z, if_neg z]; exact I.2.2.2 k hk
  have hrel : ∀ X τ, tp_Rel X σ τ → tp_Rel X (tp_up (tp_up (tp_up σ 4 c (tp_ot σ c d)) 5 c (-1)) 1 d (σ 1 d - 1)) (tp_up τ 4 c (τ 4 c - tp_bt (tp_nI d))) := fun X τ R => hP.rel R (by rw [R.cp hc, hm])
  rw [hrun]
  by_cases hl : (decide (σ 2 d ≠ 0) && decide (σ 1 d - 1 = 0)) = true
  · -- the disk is tp_gone
    rw [if_pos hl]
    rw [Bool.and_eq_true, decide_eq_true_eq, decide_eq_true_eq] at hl
    obtain ⟨l1, l2, l3⟩ := I.lv hd hl.1
    have l4 : tp_cn σ d = 1 := by
      have := hl.2
      rw [h1d, tp_nI_0 (by have := tp_cn_le σ d; omega)] at this
      omega
    refine ⟨_, rfl, ⟨fun e he => ?_, fun e he => h1e e he, fun e he => ?_, fun k hk => h4k k hk⟩, fun c' e he => hon c' e he, ⟨rfl, rfl, rfl, if_pos rfl⟩, fun e he => ⟨if_neg he, if_neg he⟩, .inr ⟨l2, if_pos rfl, if_pos rfl⟩, hcn, fun X τ R hX => (hrel X τ R).gone hd (hX hl.1) l1 hl.1⟩
    · show ∃ P, P ≤ 200 ∧ (if e = d then 0 else σ 0 e) = tp_nI P ∧ tp_cn (tp_up (tp_up (tp_up σ 4 c (tp_ot σ c d)) 5 c (-1)) 1 d (σ 1 d - 1)) e ≤ P
      by_cases z : e = d
      · exact ⟨0, by omega, by rw [if_pos z]; rfl, by rw [z]; omega⟩
      · obtain ⟨i1, i2, i3⟩ := I.pl he
        exact ⟨tp_pl σ e, i2, by rw [if_neg z]; exact i1, by rw [hcm e he z]; exact i3⟩
    · show (if e = d then 0 else σ 2 e) = 0 ∨ ((if e = d then 0 else σ 2 e) = 1 ∧ 0 < tp_cn (tp_up (tp_up (tp_up σ 4 c (tp_ot σ c d)) 5 c (-1)) 1 d (σ 1 d - 1)) e)
      by_cases z : e = d
      · exact .inl (if_pos z)
      · rw [if_neg z, hcm e he z]; exact I.2.2.1 e he
  · rw [if_neg hl]
    refine ⟨_, rfl, ⟨fun e he => ?_, fun e he => h1e e he, fun e he => ?_, fun k hk => h4k k hk⟩, fun c' e he => hon c' e he, ⟨rfl, rfl, rfl, if_pos rfl⟩, fun e he => ⟨rfl, rfl⟩, .inl ⟨rfl, rfl⟩, hcn, fun X τ R hX => hrel X τ R⟩
    · obtain ⟨i1, i2, i3⟩ := I.pl he
      refine ⟨tp_pl σ e, i2, i1, ?_⟩
      have := hcn e he
      omega
    · show σ 2 e = 0 ∨ (σ 2 e = 1 ∧ 0 < tp_cn (tp_up (tp_up (tp_up σ 4 c (tp_ot σ c d)) 5 c (-1)) 1 d (σ 1 d - 1)) e)
      by_cases z : e = d
      · by_cases w : σ 2 d = 0
        · rw [z]; exact .inl w
        · refine .inr ⟨by rw [z]; exact (I.lv hd w).2.1, ?_⟩
          have k : ¬ σ 1 d - 1 = 0 := fun v => hl (by rw [decide_eq_true w, decide_eq_true v]; rfl)
          rw [h1d, tp_nI_0 (by have := tp_cn_le σ d; omega)] at k
          rw [z]; omega
      · rw [hcm e he z]; exact I.2.2.1 e he
theorem tp_up_up {σ : tp_St} {f k : Nat} {x y : Int32} : tp_up (tp_up σ f k x) f k y = tp_up σ f k y := by
  funext g j
  show (if g = f then upd (if f = f then upd (σ f) k x else σ f) k y else (if g = f then upd (σ f) k x else σ g)) j = (if g = f then upd (σ f) k y else σ g) j
  by_cases h : g = f
  · rw [if_pos h, if_pos h, if_pos rfl]
    show (if j = k then y else if j = k then x else σ f j) = if j = k then y else σ f j
    by_cases e : j = k
    · rw [if_pos e, if_pos e]
    · rw [if_neg e, if_neg e, if_neg e]
  · rw [if_neg h, if_neg h, if_neg h]
def tp_mvO (σ : tp_St) (c a b c' e : Nat) : Bool := if c' = c then ((tp_oN σ c e && !decide (e = a)) || decide (e = b)) else tp_oN σ c' e
theorem tp_move_spec {σ : tp_St} {c a b : Nat} (I : tp_Inv σ) (hc : c < 400) (ha : a < 12) (hb : b < 12) (hoa : tp_oN σ c a = true) (hob : tp_oN σ c b = false) (hf : tp_cn σ b < tp_pl σ b) :
    ∃ σ', fC_moveCopy σ (tp_nI c) (tp_nI a) (tp_nI b) = some σ' ∧ tp_Inv σ' ∧ (∀ c' e, e < 12 → tp_oN σ' c' e = tp_mvO σ c a b c' e) ∧ (σ' 3 = σ 3 ∧ σ' 6 = σ 6 ∧ σ' 7 = σ 7) ∧ (∀ e, e ≠ a → σ' 0 e = σ 0 e ∧ σ' 2 e = σ 2 e) ∧
      ((σ' 0 a = σ 0 a ∧ σ' 2 a = σ 2 a) ∨ (σ 2 a = 1 ∧ σ' 0 a = 0 ∧ σ' 2 a = 0)) ∧ (∀ e, e < 12 → tp_cn σ' e + (decide (e = a)).toNat = tp_cn σ e + (decide (e = b)).toNat) ∧
      ∀ X τ, tp_Rel X σ τ → (σ 2 a ≠ 0 → X a) → tp_Rel X σ' (tp_up τ 4 c (τ 4 c - tp_bt (tp_nI a) + tp_bt (tp_nI b))) := by
  have hab : b ≠ a := fun z => by rw [z, hoa] at hob; cases hob
  obtain ⟨σ1, r1, I1, o1, ⟨s3, s6, s7, _⟩, se, sa, c1, R1⟩ := tp_drop_spec I hc ha hoa
  have h3 : σ1 3 c = 1 := by rw [s3]; exact tp_oN_ex I hc ha hoa
  have hcb := c1 b hb
  rw [decide_eq_false hab] at hcb
  have t2 : (false).toNat = 0 := rfl
  have t1 : (true).toNat = 1 := rfl
  have ob1 : tp_oN σ1 c b = false := by rw [o1 c b hb, hob]; rfl
  have hn1 : tp_nc σ1 c < 2 := by
    have k := tp_sumF_upd (f := fun e => (tp_oN σ1 c e).toNat) (g := fun e => (tp_oN σ c e).toNat) (c := a) (n := 12) ha (fun e he hne => by show (tp_oN σ1 c e).toNat = _; rw [o1 c e he, decide_eq_false hne, Bool.and_false]; exact congrArg Bool.toNat (Bool.and_true _))
    have k1 : tp_oN σ1 c a = false := by rw [o1 c a ha, hoa, decide_eq_true rfl, decide_eq_true rfl]; rfl
    have k2 : tp_cntF (fun e => tp_oN σ1 c e) 12 + (tp_oN σ c a).toNat = tp_cntF (fun e => tp_oN σ c e) 12 + (tp_oN σ1 c a).toNat := k
    rw [tp_nc_cnt (I1.vv hc), tp_nc_cnt (I.vv hc), hoa, k1] at k2
    have := tp_nc_lt σ c
    omega
  have pb : tp_pl σ1 b = tp_pl σ b := by rw [tp_pl, tp_pl, (se b hab).1]
  obtain ⟨σ2, r2, I2, o2, ⟨q0, q2, q3, q6, q7⟩, c2, R2⟩ := tp_add_spec I1 hc hb h3 hn1 ob1 (by rw [pb]; omega)
  refine ⟨σ2, by rw [fC_moveCopy, r1, Option.bind_some, r2, Option.bind_some], I2, fun c' e he => ?_, ⟨q3.trans s3, q6.trans s6, q7.trans s7⟩, fun e he => ⟨by rw [q0]; exact (se e he).1, by rw [q2]; exact (se e he).2⟩, by rw [q0, q2]; exact sa, fun e he => ?_, fun X τ R hX => ?_⟩
  · rw [o2 c' e he, o1 c' e he, tp_mvO]
    by_cases z : c' = c
    · rw [if_pos z, z, decide_eq_true rfl, Bool.true_and, Bool.true_and]
    · rw [if_neg z, decide_eq_false z, Bool.false_and, Bool.false_and, Bool.not_false, Bool.and_true, Bool.or_false]
  · have k1 := c1 e he
    have k2 := c2 e he
    omega
  · have k := R2 X _ (R1 X τ R hX)
    rw [tp_up_up] at k
    have e1 : tp_up τ 4 c (τ 4 c - tp_bt (tp_nI a)) 4 c = τ 4 c - tp_bt (tp_nI a) := tp_up_eq
    rw [e1] at k
    exact k
def tp_tY (σ τ : tp_St) : Nat → tp_St
  | 0 => τ
  | n + 1 => if 0 < tp_tY σ τ n 1 n ∧ tp_tY σ τ n 2 n ≠ 0 ∧ tp_cn σ n = 0 then tp_up (tp_tY σ τ n) 1 n 0 else tp_tY σ τ n
theorem tp_tY_rel {X : Nat → Prop} {σ τ : tp_St} (I : tp_Inv σ) (R : tp_Rel X σ τ) : ∀ i, i ≤ 12 → tp_Rel (fun d => i ≤ d ∧ X d) σ (tp_tY σ τ i) := by
  intro i
  induction i with
  | zero => intro _; exact R.mono (fun d _ h => ⟨Nat.zero_le d, h⟩)
  | succ i ih =>
    intro hi
    have k := ih (by omega)
    rw [tp_tY]
    by_cases z : 0 < tp_tY σ τ i 1 i ∧ tp_tY σ τ i 2 i ≠ 0 ∧ tp_cn σ i = 0
    · rw [if_pos z]
      refine ⟨fun d hd => ?_, k.2⟩
      show ((if d = i then 0 else tp_tY σ τ i 1 d) = σ 0 d ∨ ((i + 1 ≤ d ∧ X d) ∧ σ 0 d = 0 ∧ 0 < (if d = i then 0 else tp_tY σ τ i 1 d) ∧ tp_tY σ τ i 2 d ≠ 0)) ∧ (0 < σ 0 d → tp_tY σ τ i 2 d = σ 2 d)
      refine ⟨?_, (k.1 d hd).2⟩
      by_cases e : d = i
      · rw [if_pos e]
        left
        rcases (k.1 i (by omega)).1 with w | w
        · exfalso
          rw [w] at z
          have := (k.1 i (by omega)).2 z.1
          rw [this] at z
          have := (I.lv (by omega) z.2.1).2.2
          omega
        · rw [e, w.2.1]
      · rw [if_neg e]
        rcases (k.1 d hd).1 with w | w
        · exact .inl w
        · exact .inr ⟨⟨by omega, w.1.2⟩, w.2⟩
    · rw [if_neg z]
      refine ⟨fun d hd => ⟨?_, (k.1 d hd).2⟩, k.2⟩
      rcases (k.1 d hd).1 with w | w
      · exact .inl w
      · by_cases e : d = i
        · exfalso
          rw [e] at w
          have h0 : tp_cn σ i = 0 := by
            obtain ⟨P, h1, h2, h3⟩ := I.1 i (by omega)
            have h4 := w.2.1
            rw [h2, tp_nI_0 (by omega)] at h4
            omega
          exact z ⟨w.2.2.1, w.2.2.2, h0⟩
        · exact .inr ⟨⟨by omega, w.1.2⟩, w.2⟩
theorem tp_M_tidy {X : Nat → Prop} {σ τ : tp_St} (I : tp_Inv σ) (R : tp_Rel X σ τ) : ∃ τ', fM_tidy τ = some τ' ∧ tp_Rel tp_noX σ τ' ∧ τ' 0 = τ 0 := by
  refine ⟨tp_tY σ τ 12, ?_, (tp_tY_rel I R 12 (Nat.le_refl _)).mono (fun d hd h => absurd h.1 (by omega)), ?_⟩
  · refine tp_acc_loop0 (F := fun n (b : tp_St) y => fM_tidy_L2 n y b) (N := 12) (acc := fun i => tp_tY σ τ i) ?_ ?_
    · show fM_tidy_L2 1 (tp_nI 12) _ = _
      rw [fM_tidy_L2, if_pos (by decide)]
    · intro n i hi
      show fM_tidy_L2 (n + 1) (tp_nI i) (tp_tY σ τ i) = fM_tidy_L2 n (tp_nI i + 1) (tp_tY σ τ (i + 1))
      have k := tp_tY_rel I R i (by omega)
      have hc := tp_cn_le σ i
      rw [fM_tidy_L2, if_neg (tp_gd hi), if_neg (tp_bd hi), tp_td hi, tp_tY]
      by_cases z : 0 < tp_tY σ τ i 1 i
      · rw [if_neg (Int32.not_le.mpr z)]
        by_cases y : tp_tY σ τ i 2 i = 0
        · rw [if_pos y, if_neg (fun w => w.2.1 y)]
        · rw [if_neg y, tp_M_used I k hi, Option.bind_some]
          by_cases w : tp_cn σ i = 0
          · rw [if_pos ((tp_nI_0 (by omega)).mpr w), if_pos ⟨z, y, w⟩]
          · rw [if_neg (fun v => w ((tp_nI_0 (by omega)).mp v)), if_neg (fun v => w v.2.2)]
      · rw [if_pos (Int32.not_lt.mp z), if_neg (fun w => z w.1)]
  · have : ∀ i, tp_tY σ τ i 0 = τ 0 := by
      intro i
      induction i with
      | zero => rfl
      | succ i ih =>
        rw [tp_tY]
        by_cases z : 0 < tp_tY σ τ i 1 i ∧ tp_tY σ τ i 2 i ≠ 0 ∧ tp_cn σ i = 0
        · rw [if_pos z]; exact ih
        · rw [if_neg z]; exact ih
    exact this 12
