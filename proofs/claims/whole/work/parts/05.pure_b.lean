theorem tp_up_ne {σ : tp_St} {f k : Nat} {x : Int32} {g : Nat} (h : g ≠ f) : tp_up σ f k x g = σ g := if_neg h
theorem tp_up_at {σ : tp_St} {f k : Nat} {x : Int32} (j : Nat) : tp_up σ f k x f j = if j = k then x else σ f j := by
  show (if f = f then upd (σ f) k x else σ f) j = _
  rw [if_pos rfl]; rfl
theorem tp_up_eq {σ : tp_St} {f k : Nat} {x : Int32} : tp_up σ f k x f k = x := by rw [tp_up_at, if_pos rfl]
theorem tp_up_nk {σ : tp_St} {f k : Nat} {x : Int32} {j : Nat} (h : j ≠ k) : tp_up σ f k x f j = σ f j := by rw [tp_up_at, if_neg h]
def tp_bI (b : Bool) : Int32 := if b then 1 else 0
theorem tp_bI_0 (b : Bool) : (tp_bI b = 0) ↔ b = false := by cases b <;> decide
def tp_oN (σ : tp_St) (c d : Nat) : Bool := decide (σ 4 c = tp_nI d) || decide (σ 5 c = tp_nI d)
def tp_cn (σ : tp_St) (d : Nat) : Nat := tp_cntF (fun c => tp_oN σ c d) 400
def tp_Inv (σ : tp_St) : Prop :=
  (∀ d, d < 12 → ∃ P, P ≤ 200 ∧ σ 0 d = tp_nI P ∧ tp_cn σ d ≤ P) ∧
  (∀ d, d < 12 → σ 1 d = tp_nI (tp_cn σ d)) ∧
  (∀ d, d < 12 → σ 2 d = 0 ∨ (σ 2 d = 1 ∧ 0 < tp_cn σ d)) ∧
  (∀ c, c < 400 → (σ 3 c = 0 ∧ σ 4 c = -1 ∧ σ 5 c = -1) ∨ (σ 3 c = 1 ∧ tp_VV (σ 4 c) (σ 5 c)))
def tp_Rel (X : Nat → Prop) (σ τ : tp_St) : Prop :=
  (∀ d, d < 12 → (τ 1 d = σ 0 d ∨ (X d ∧ σ 0 d = 0 ∧ 0 < τ 1 d ∧ τ 2 d ≠ 0)) ∧ (0 < σ 0 d → τ 2 d = σ 2 d)) ∧
  (∀ c, c < 400 → τ 3 c = σ 3 c ∧ τ 4 c = tp_mK (σ 4 c) (σ 5 c)) ∧
  (∀ k, k < 1600 → τ 5 k = σ 6 k) ∧ τ 6 0 = σ 7 0
abbrev tp_noX : Nat → Prop := fun _ => False
theorem tp_Rel.pl {σ τ : tp_St} (h : tp_Rel tp_noX σ τ) {d : Nat} (hd : d < 12) : τ 1 d = σ 0 d := ((h.1 d hd).1).elim id (fun z => z.1.elim)
theorem tp_Rel.th {X : Nat → Prop} {σ τ : tp_St} (h : tp_Rel X σ τ) {c : Nat} (hc : c < 400) : τ 3 c = σ 3 c := (h.2.1 c hc).1
theorem tp_Rel.cp {X : Nat → Prop} {σ τ : tp_St} (h : tp_Rel X σ τ) {c : Nat} (hc : c < 400) : τ 4 c = tp_mK (σ 4 c) (σ 5 c) := (h.2.1 c hc).2
theorem tp_Rel.thrown {X : Nat → Prop} {σ τ : tp_St} (h : tp_Rel X σ τ) (x : Int32) : tp_Rel X σ (tp_up τ 0 0 x) := h
theorem tp_Inv.vv {σ : tp_St} (h : tp_Inv σ) {c : Nat} (hc : c < 400) : tp_VV (σ 4 c) (σ 5 c) := by
  rcases h.2.2.2 c hc with ⟨_, h1, h2⟩ | ⟨_, h1⟩
  · exact .inl ⟨h1, h2⟩
  · exact h1
theorem tp_Inv.ex {σ : tp_St} (h : tp_Inv σ) {c : Nat} (hc : c < 400) (hne : σ 4 c ≠ -1) : σ 3 c = 1 := by
  rcases h.2.2.2 c hc with ⟨_, h1, h2⟩ | ⟨h1, _⟩
  · exact absurd h1 hne
  · exact h1
theorem tp_cn_le (σ : tp_St) (d : Nat) : tp_cn σ d ≤ 400 := tp_cntF_le _ 400
def tp_th (σ : tp_St) (d : Nat) : Bool := decide (0 < σ 0 d)
def tp_sy (σ : tp_St) (d : Nat) : Bool := decide (0 < σ 0 d) && decide (σ 2 d = 0)
def tp_fr (σ : tp_St) (d : Nat) : Int32 := σ 0 d - σ 1 d
def tp_syv (σ : tp_St) (x : Int32) : Bool := if x = -1 then false else tp_sy σ x.toNatClampNeg
theorem tp_syv_m (σ : tp_St) : tp_syv σ (-1) = false := if_pos rfl
theorem tp_syv_n (σ : tp_St) {d : Nat} (h : d < 12) : tp_syv σ (tp_nI d) = tp_sy σ d := by rw [tp_syv, if_neg (tp_nI_m (by omega)), tp_td h]
theorem tp_C_isThere {σ : tp_St} {d : Nat} (h : d < 12) : fC_isThere σ (tp_nI d) = some (tp_bI (tp_th σ d)) := by
  rw [fC_isThere, if_neg (tp_nI_nn (by omega)), if_neg (tp_gd h), if_neg (tp_bd h), tp_td h]
  by_cases z : σ 0 d ≤ 0
  · rw [if_pos z, tp_th, decide_eq_false (by rw [Int32.not_lt]; exact z)]; rfl
  · rw [if_neg z, tp_th, decide_eq_true (Int32.not_le.mp z)]; rfl
theorem tp_C_isThere_m {σ : tp_St} : fC_isThere σ (-1) = some 0 := by rw [fC_isThere, if_pos (by decide)]
theorem tp_C_isThere_o {σ : tp_St} {x : Int32} (h : x < 0 ∨ 12 ≤ x) : fC_isThere σ x = some 0 := by
  rw [fC_isThere]
  rcases h with h | h
  · rw [if_pos h]
  · by_cases z : x < 0
    · rw [if_pos z]
    · rw [if_neg z, if_pos h]
theorem tp_C_stays {σ : tp_St} {d : Nat} (h : d < 12) : fC_stays σ (tp_nI d) = some (tp_bI (tp_sy σ d)) := by
  rw [fC_stays, tp_C_isThere h, Option.bind_some]
  by_cases z : 0 < σ 0 d
  · rw [tp_th, decide_eq_true z, if_neg (by decide), if_neg (tp_bd h), tp_td h, tp_sy, decide_eq_true z]
    by_cases y : σ 2 d = 0
    · rw [if_pos y, decide_eq_true y]; rfl
    · rw [if_neg y, decide_eq_false y]; rfl
  · rw [tp_th, decide_eq_false z, if_pos (by decide), tp_sy, decide_eq_false z]; rfl
theorem tp_C_stays_m {σ : tp_St} : fC_stays σ (-1) = some 0 := by rw [fC_stays, tp_C_isThere_m, Option.bind_some, if_pos rfl]
def tp_DD (x : Int32) : Prop := x = -1 ∨ ∃ d, d < 12 ∧ x = tp_nI d
theorem tp_VV.l {l g : Int32} (h : tp_VV l g) : tp_DD l := by
  rcases h with ⟨h, _⟩ | ⟨a, ha, h, _⟩ | ⟨a, b, h1, h2, h, _⟩
  · exact .inl h
  · exact .inr ⟨a, ha, h⟩
  · exact .inr ⟨a, by omega, h⟩
theorem tp_VV.g {l g : Int32} (h : tp_VV l g) : tp_DD g := by
  rcases h with ⟨_, h⟩ | ⟨a, ha, _, h⟩ | ⟨a, b, h1, h2, _, h⟩
  · exact .inl h
  · exact .inl h
  · exact .inr ⟨b, h2, h⟩
theorem tp_C_staysv {σ : tp_St} {x : Int32} (h : tp_DD x) : fC_stays σ x = some (tp_bI (tp_syv σ x)) := by
  rcases h with h | ⟨d, hd, h⟩
  · rw [h, tp_C_stays_m, tp_syv_m]; rfl
  · rw [h, tp_C_stays hd, tp_syv_n σ hd]
theorem tp_C_free {σ : tp_St} {d : Nat} (h : d < 12) : fC_freePlaces σ (tp_nI d) = some (tp_fr σ d) := by rw [fC_freePlaces, if_neg (tp_bd h), tp_td h, tp_fr]
def tp_swr (σ : tp_St) (x : Int32) : Bool := tp_syv σ x && decide (0 < tp_fr σ x.toNatClampNeg)
theorem tp_C_swr {σ : tp_St} {x : Int32} (h : tp_DD x) : fC_staysWithRoom σ x = some (tp_bI (tp_swr σ x)) := by
  rw [fC_staysWithRoom, tp_C_staysv h, Option.bind_some, tp_swr]
  cases hs : tp_syv σ x with
  | false => rw [if_pos (by decide)]; rfl
  | true =>
    rw [if_neg (by decide)]
    rcases h with h | ⟨d, hd, h⟩
    · rw [h, tp_syv_m] at hs; cases hs
    · rw [h, tp_C_free hd, Option.bind_some, tp_td hd]
      by_cases z : tp_fr σ d ≤ 0
      · rw [if_pos z, decide_eq_false (by rw [Int32.not_lt]; exact z)]; rfl
      · rw [if_neg z, decide_eq_true (Int32.not_le.mp z)]; rfl
theorem tp_C_isOn {σ : tp_St} {c : Nat} (h : c < 400) (x : Int32) : fC_isOn σ (tp_nI c) x = some (tp_bI (decide (σ 4 c = x) || decide (σ 5 c = x))) := by
  rw [fC_isOn, if_neg (tp_b4 h), tp_t4 h]
  by_cases y : σ 4 c = x
  · rw [if_pos y, decide_eq_true y]; rfl
  · rw [if_neg y, decide_eq_false y]
    by_cases z : σ 5 c = x
    · rw [if_pos z, decide_eq_true z]; rfl
    · rw [if_neg z, decide_eq_false z]; rfl
theorem tp_C_isOn' {σ : tp_St} {c : Nat} (h : c < 400) (d : Nat) : fC_isOn σ (tp_nI c) (tp_nI d) = some (tp_bI (tp_oN σ c d)) := tp_C_isOn h (tp_nI d)
def tp_ot (σ : tp_St) (c d : Nat) : Int32 := if σ 4 c = tp_nI d then σ 5 c else σ 4 c
theorem tp_C_other {σ : tp_St} {c : Nat} (h : c < 400) (d : Nat) : fC_otherThan σ (tp_nI c) (tp_nI d) = some (tp_ot σ c d) := by
  rw [fC_otherThan, if_neg (tp_b4 h), tp_t4 h, tp_ot]
  by_cases y : σ 4 c = tp_nI d
  · rw [if_pos y, if_pos y]
  · rw [if_neg y, if_neg y]
def tp_nc (σ : tp_St) (c : Nat) : Nat := if σ 4 c = -1 then 0 else if σ 5 c = -1 then 1 else 2
theorem tp_C_copies {σ : tp_St} {c : Nat} (h : c < 400) : fC_copiesOf σ (tp_nI c) = some (tp_nI (tp_nc σ c)) := by
  rw [fC_copiesOf, if_neg (tp_b4 h), tp_t4 h, tp_nc]
  by_cases y : σ 4 c = -1
  · rw [if_pos y, if_pos y]; rfl
  · rw [if_neg y, if_neg y]
    by_cases z : σ 5 c = -1
    · rw [if_pos z, if_pos z]; rfl
    · rw [if_neg z, if_neg z]; rfl
def tp_dg (σ : tp_St) (c : Nat) : Bool := decide (tp_nc σ c = 1)
theorem tp_nc_lt (σ : tp_St) (c : Nat) : tp_nc σ c < 3 := by
  unfold tp_nc
  by_cases y : σ 4 c = -1
  · rw [if_pos y]; omega
  · rw [if_neg y]
    by_cases z : σ 5 c = -1
    · rw [if_pos z]; omega
    · rw [if_neg z]; omega
theorem tp_C_deg {σ : tp_St} {c : Nat} (h : c < 400) : fC_isDegraded σ (tp_nI c) = some (tp_bI (tp_dg σ c)) := by
  rw [fC_isDegraded, tp_C_copies h, Option.bind_some, tp_dg]
  have := tp_nc_lt σ c
  by_cases y : tp_nc σ c = 1
  · rw [y, if_pos (show tp_nI 1 = 1 from rfl)]; rfl
  · rw [if_neg (show ¬ tp_nI (tp_nc σ c) = 1 from fun z => y ((tp_nI_eq (j := 1) (by omega) (by omega)).mp z)), decide_eq_false y]; rfl
theorem tp_C_isChunk {σ : tp_St} {c : Nat} (h : c < 400) : fC_isChunk σ (tp_nI c) = some (tp_bI (decide (σ 3 c ≠ 0))) := by
  rw [fC_isChunk, if_neg (tp_nI_nn (by omega)), if_neg (tp_g4 h), if_neg (tp_b4 h), tp_t4 h]
  by_cases y : σ 3 c = 0
  · rw [if_pos y, decide_eq_false (fun z => z y)]; rfl
  · rw [if_neg y, decide_eq_true y]; rfl
theorem tp_C_isChunk_o {σ : tp_St} {x : Int32} (h : x < 0 ∨ 400 ≤ x) : fC_isChunk σ x = some 0 := by
  rw [fC_isChunk]
  rcases h with h | h
  · rw [if_pos h]
  · by_cases z : x < 0
    · rw [if_pos z]
    · rw [if_neg z, if_pos h]
theorem tp_M_isDisk {σ τ : tp_St} (R : tp_Rel tp_noX σ τ) {d : Nat} (h : d < 12) : fM_isDisk τ (tp_nI d) = some (tp_bI (tp_th σ d)) := by
  rw [fM_isDisk, if_neg (tp_nI_nn (by omega)), if_neg (tp_gd h), if_neg (tp_bd h), tp_td h, R.pl h]
  by_cases z : σ 0 d ≤ 0
  · rw [if_pos z, tp_th, decide_eq_false (by rw [Int32.not_lt]; exact z)]; rfl
  · rw [if_neg z, tp_th, decide_eq_true (Int32.not_le.mp z)]; rfl
theorem tp_M_isDisk_o {τ : tp_St} {x : Int32} (h : x < 0 ∨ 12 ≤ x) : fM_isDisk τ x = some 0 := by
  rw [fM_isDisk]
  rcases h with h | h
  · rw [if_pos h]
  · by_cases z : x < 0
    · rw [if_pos z]
    · rw [if_neg z, if_pos h]
theorem tp_M_isChunk {X : Nat → Prop} {σ τ : tp_St} (R : tp_Rel X σ τ) {c : Nat} (h : c < 400) : fM_isChunk τ (tp_nI c) = some (tp_bI (decide (σ 3 c ≠ 0))) := by
  rw [fM_isChunk, if_neg (tp_nI_nn (by omega)), if_neg (tp_g4 h), if_neg (tp_b4 h), tp_t4 h, R.th h]
  by_cases y : σ 3 c = 0
  · rw [if_pos y, decide_eq_false (fun z => z y)]; rfl
  · rw [if_neg y, decide_eq_true y]; rfl
theorem tp_M_isChunk_o {τ : tp_St} {x : Int32} (h : x < 0 ∨ 400 ≤ x) : fM_isChunk τ x = some 0 := by
  rw [fM_isChunk]
  rcases h with h | h
  · rw [if_pos h]
  · by_cases z : x < 0
    · rw [if_pos z]
    · rw [if_neg z, if_pos h]
theorem tp_M_stays {σ τ : tp_St} (R : tp_Rel tp_noX σ τ) {d : Nat} (h : d < 12) : fM_stays τ (tp_nI d) = some (tp_bI (tp_sy σ d)) := by
  rw [fM_stays, if_neg (tp_bd h), tp_td h, R.pl h, tp_sy]
  by_cases z : 0 < σ 0 d
  · rw [if_neg (Int32.not_le.mpr z), (R.1 d h).2 z, decide_eq_true z]
    by_cases y : σ 2 d = 0
    · rw [if_pos y, decide_eq_true y]; rfl
    · rw [if_neg y, decide_eq_false y]; rfl
  · rw [if_pos (Int32.not_lt.mp z), decide_eq_false z]; rfl
theorem tp_on_V {σ : tp_St} {c d : Nat} (h : tp_VV (σ 4 c) (σ 5 c)) (hd : d < 12) : tp_onB (tp_mK (σ 4 c) (σ 5 c)) (tp_nI d) ↔ tp_oN σ c d = true := by
  rw [tp_oN]
  rcases h with ⟨h1, h2⟩ | ⟨a, ha, h1, h2⟩ | ⟨a, b, ha, hb, h1, h2⟩
  · rw [h1, h2]
    rw [decide_eq_false (tp_nI_m' (by omega))]
    exact ⟨fun z => absurd z (tp_on_0 d hd), fun z => by cases z⟩
  · rw [h1, h2, decide_eq_false (tp_nI_m' (i := d) (by omega)), Bool.or_false, decide_eq_true_eq, tp_nI_eq (by omega) (by omega)]
    exact ⟨fun z => ((tp_on_1 a ha d hd).mp z).symm, fun z => (tp_on_1 a ha d hd).mpr z.symm⟩
  · rw [h1, h2, Bool.or_eq_true, decide_eq_true_eq, decide_eq_true_eq, tp_nI_eq (by omega) (by omega), tp_nI_eq (by omega) (by omega)]
    have k := tp_on_2 a (by omega) b hb ha d hd
    exact ⟨fun z => (k.mp z).imp Eq.symm Eq.symm, fun z => k.mpr (z.imp Eq.symm Eq.symm)⟩
theorem tp_M_isOn {X : Nat → Prop} {σ τ : tp_St} (I : tp_Inv σ) (R : tp_Rel X σ τ) {c d : Nat} (h : c < 400) (hd : d < 12) : fM_isOn τ (tp_nI c) (tp_nI d) = some (tp_bI (tp_oN σ c d)) := by
  rw [fM_isOn, if_neg (tp_b4 h), tp_t4 h, R.th h, R.cp h]
  by_cases y : σ 3 c = 0
  · rw [if_pos y]
    have h4 : σ 4 c = -1 ∧ σ 5 c = -1 := by
      rcases I.2.2.2 c h with z | z
      · exact z.2
      · rw [z.1] at y; exact absurd y (by decide)
    rw [tp_oN, h4.1, h4.2, decide_eq_false (tp_nI_m' (by omega))]; rfl
  · rw [if_neg y]
    by_cases z : tp_onB (tp_mK (σ 4 c) (σ 5 c)) (tp_nI d)
    · rw [if_pos z, (tp_on_V (I.vv h) hd).mp z]; rfl
    · rw [if_neg z, Bool.eq_false_iff.mpr (fun w => z ((tp_on_V (I.vv h) hd).mpr w))]; rfl
theorem tp_if_bI {α : Type} (b : Bool) (x y : α) : (if tp_bI b = 0 then x else y) = if b then y else x := by cases b <;> rfl
theorem tp_M_used {X : Nat → Prop} {σ τ : tp_St} (I : tp_Inv σ) (R : tp_Rel X σ τ) {d : Nat} (hd : d < 12) : fM_used τ (tp_nI d) = some (tp_nI (tp_cn σ d)) :=
  tp_cnt_loop (F := fun n a x => fM_used_L4 τ (tp_nI d) n a x) (N := 400) (p := fun c => tp_oN σ c d) (by rw [fM_used_L4, if_pos (by decide)]; rfl) (fun n i a hi => by
    show fM_used_L4 τ (tp_nI d) (n + 1) a (tp_nI i) = fM_used_L4 τ (tp_nI d) n _ (tp_nI i + 1)
    rw [fM_used_L4, if_neg (tp_g4 hi), tp_M_isOn I R hi hd, Option.bind_some, tp_if_bI]
    cases tp_oN σ i d <;> rfl)
theorem tp_M_freeOn {σ τ : tp_St} (I : tp_Inv σ) (R : tp_Rel tp_noX σ τ) {d : Nat} (hd : d < 12) : fM_freeOn τ (tp_nI d) = some (tp_fr σ d) := by
  rw [fM_freeOn, if_neg (tp_bd hd), tp_M_used I R hd, Option.bind_some, tp_td hd, R.pl hd, tp_fr, I.2.1 d hd]
theorem tp_nc_cnt0 : tp_cntF (fun d => decide ((-1 : Int32) = tp_nI d) || decide ((-1 : Int32) = tp_nI d)) 12 = 0 := by decide +kernel
theorem tp_nc_cnt1 : ∀ a, a < 12 → tp_cntF (fun d => decide (tp_nI a = tp_nI d) || decide ((-1 : Int32) = tp_nI d)) 12 = 1 := by decide +kernel
theorem tp_nc_cnt2 : ∀ a, a < 12 → ∀ b, b < 12 → a < b → tp_cntF (fun d => decide (tp_nI a = tp_nI d) || decide (tp_nI b = tp_nI d)) 12 = 2 := by decide +kernel
theorem tp_nc_cnt {σ : tp_St} {c : Nat} (h : tp_VV (σ 4 c) (σ 5 c)) : tp_cntF (fun d => tp_oN σ c d) 12 = tp_nc σ c := by
  unfold tp_oN tp_nc
  rcases h with ⟨h1, h2⟩ | ⟨a, ha, h1, h2⟩ | ⟨a, b, ha, hb, h1, h2⟩
  · rw [h1, h2, if_pos rfl]; exact tp_nc_cnt0
  · rw [h1, h2, if_neg (tp_nI_m (by omega)), if_pos rfl]; exact tp_nc_cnt1 a ha
  · rw [h1, h2, if_neg (tp_nI_m (by omega)), if_neg (tp_nI_m (by omega))]; exact tp_nc_cnt2 a (by omega) b hb ha
theorem tp_M_howMany {X : Nat → Prop} {σ τ : tp_St} (I : tp_Inv σ) (R : tp_Rel X σ τ) {c : Nat} (hc : c < 400) : fM_howMany τ (tp_nI c) = some (tp_nI (tp_nc σ c)) := by
  rw [← tp_nc_cnt (I.vv hc)]
  exact tp_cnt_loop (F := fun n a x => fM_howMany_L4 τ (tp_nI c) n a x) (N := 12) (p := fun d => tp_oN σ c d) (by rw [fM_howMany_L4, if_pos (by decide)]) (fun n i a hi => by
    show fM_howMany_L4 τ (tp_nI c) (n + 1) a (tp_nI i) = fM_howMany_L4 τ (tp_nI c) n _ (tp_nI i + 1)
    rw [fM_howMany_L4, if_neg (tp_gd hi), tp_M_isOn I R hc hi, Option.bind_some, tp_if_bI]
    cases tp_oN σ c i <;> rfl)
