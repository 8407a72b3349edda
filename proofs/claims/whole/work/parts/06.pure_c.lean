def tp_eM (q : Nat → Bool) (f : Nat → Int32) : Nat → Option Nat
  | 0 => none
  | n + 1 => if q n && decide (0 < f n) && (tp_eM q f n).elim true (fun b => decide (f b < f n)) then some n else tp_eM q f n
def tp_enc (o : Option Nat) : Int32 := o.elim (-1) tp_nI
theorem tp_eM_some {q : Nat → Bool} {f : Nat → Int32} : ∀ {n d : Nat}, tp_eM q f n = some d → d < n ∧ q d = true ∧ 0 < f d := by
  intro n
  induction n with
  | zero => intro d h; cases h
  | succ n ih =>
    intro d h
    rw [tp_eM] at h
    by_cases z : (q n && decide (0 < f n) && (tp_eM q f n).elim true (fun b => decide (f b < f n))) = true
    · rw [if_pos z] at h
      cases h
      rw [Bool.and_eq_true, Bool.and_eq_true] at z
      exact ⟨by omega, z.1.1, of_decide_eq_true z.1.2⟩
    · rw [if_neg z] at h
      have := ih h
      exact ⟨by omega, this.2⟩
theorem tp_eM_no {q : Nat → Bool} {f : Nat → Int32} {n : Nat} (h : q n = false) : tp_eM q f (n + 1) = tp_eM q f n := by
  rw [tp_eM, h]; rfl
theorem tp_eM_n {q : Nat → Bool} {f : Nat → Int32} {n : Nat} (h : q n = true) (he : tp_eM q f n = none) : tp_eM q f (n + 1) = if 0 < f n then some n else none := by
  rw [tp_eM, he, h]
  by_cases z : 0 < f n
  · rw [if_pos z, decide_eq_true z]; rfl
  · rw [if_neg z, decide_eq_false z]; rfl
theorem tp_eM_s {q : Nat → Bool} {f : Nat → Int32} {n b : Nat} (h : q n = true) (he : tp_eM q f n = some b) : tp_eM q f (n + 1) = if f b < f n then some n else some b := by
  have hb := (tp_eM_some he).2.2
  rw [tp_eM, he, h]
  by_cases z : f b < f n
  · rw [if_pos z]
    show (if (true && decide (0 < f n) && decide (f b < f n)) = true then _ else _) = _
    rw [decide_eq_true z, decide_eq_true (Int32.lt_trans hb z)]; rfl
  · rw [if_neg z]
    show (if (true && decide (0 < f n) && decide (f b < f n)) = true then _ else _) = _
    rw [decide_eq_false z, Bool.and_false]; rfl
theorem tp_eM_none {q : Nat → Bool} {f : Nat → Int32} : ∀ {n : Nat}, tp_eM q f n = none → ∀ d, d < n → q d = true → ¬ 0 < f d := by
  intro n
  induction n with
  | zero => intro _ d hd; omega
  | succ n ih =>
    intro h d hd hq hf
    cases hn : q n with
    | false =>
      rw [tp_eM_no hn] at h
      by_cases e : d = n
      · rw [e, hn] at hq; cases hq
      · exact ih h d (by omega) hq hf
    | true =>
      cases he : tp_eM q f n with
      | some b =>
        rw [tp_eM_s hn he] at h
        by_cases z : f b < f n
        · rw [if_pos z] at h; cases h
        · rw [if_neg z] at h; cases h
      | none =>
        rw [tp_eM_n hn he] at h
        by_cases z : 0 < f n
        · rw [if_pos z] at h; cases h
        · by_cases e : d = n
          · rw [e] at hf; exact z hf
          · exact ih he d (by omega) hq hf
theorem tp_eM_congr {q r : Nat → Bool} {f : Nat → Int32} : ∀ {n : Nat}, (∀ d, d < n → q d = r d) → tp_eM q f n = tp_eM r f n := by
  intro n
  induction n with
  | zero => intro _; rfl
  | succ n ih => intro h; rw [tp_eM, tp_eM, ih (fun d hd => h d (by omega)), h n (by omega)]
theorem tp_eM_ex {q : Nat → Bool} {f : Nat → Int32} {n d : Nat} (hd : d < n) (hq : q d = true) (hf : 0 < f d) : ∃ e, tp_eM q f n = some e := by
  cases h : tp_eM q f n with
  | some e => exact ⟨e, rfl⟩
  | none => exact absurd hf (tp_eM_none h d hd hq)
theorem tp_enc_lt {o : Option Nat} (h : ∀ d, o = some d → d < 2000000) : (tp_enc o = -1 ↔ o = none) ∧ (tp_enc o < 0 ↔ o = none) ∧ (0 ≤ tp_enc o ↔ o ≠ none) := by
  cases o with
  | none => exact ⟨⟨fun _ => rfl, fun _ => rfl⟩, ⟨fun _ => rfl, fun _ => by decide⟩, ⟨fun z => absurd z (by decide), fun z => absurd rfl z⟩⟩
  | some d =>
    have hd := h d rfl
    refine ⟨⟨fun z => absurd z (tp_nI_m hd), fun z => by cases z⟩, ⟨fun z => absurd z (tp_nI_nn hd), fun z => by cases z⟩, ⟨fun _ z => (by cases z), fun _ => Int32.not_lt.mp (tp_nI_nn hd)⟩⟩
def tp_qB (σ : tp_St) (x : Int32) (d : Nat) : Bool := decide (tp_nI d ≠ x) && tp_sy σ d
def tp_qO (σ : tp_St) (c d : Nat) : Bool := !tp_oN σ c d && tp_sy σ d
theorem tp_C_emp {σ : tp_St} (x : Int32) : fC_emptiestBut σ x = some (tp_enc (tp_eM (tp_qB σ x) (tp_fr σ) 12)) := by
  refine tp_acc_loop0 (F := fun n (b : Int32 × Int32) y => fC_emptiestBut_L7 σ x n b.1 b.2 y) (N := 12) (acc := fun i => (tp_enc (tp_eM (tp_qB σ x) (tp_fr σ) i), (tp_eM (tp_qB σ x) (tp_fr σ) i).elim 0 (tp_fr σ))) ?_ ?_
  · show fC_emptiestBut_L7 σ x 1 _ _ (tp_nI 12) = _
    rw [fC_emptiestBut_L7, if_pos (by decide)]
  · intro n i hi
    show fC_emptiestBut_L7 σ x (n + 1) (tp_enc (tp_eM (tp_qB σ x) (tp_fr σ) i)) ((tp_eM (tp_qB σ x) (tp_fr σ) i).elim 0 (tp_fr σ)) (tp_nI i) = fC_emptiestBut_L7 σ x n (tp_enc (tp_eM (tp_qB σ x) (tp_fr σ) (i + 1))) ((tp_eM (tp_qB σ x) (tp_fr σ) (i + 1)).elim 0 (tp_fr σ)) (tp_nI i + 1)
    rw [fC_emptiestBut_L7, if_neg (tp_gd hi)]
    by_cases y : tp_nI i = x
    · rw [if_pos y, tp_eM_no (q := tp_qB σ x) (n := i) (by rw [tp_qB, decide_eq_false (fun z => z y)]; rfl)]
    · rw [if_neg y, tp_C_stays hi, Option.bind_some, tp_if_bI]
      cases hs : tp_sy σ i with
      | false => rw [if_neg (by decide), tp_eM_no (q := tp_qB σ x) (n := i) (by rw [tp_qB, hs, Bool.and_false])]
      | true =>
        have hq : tp_qB σ x i = true := by rw [tp_qB, hs, decide_eq_true y]; rfl
        rw [if_pos rfl, tp_C_free hi, Option.bind_some]
        cases he : tp_eM (tp_qB σ x) (tp_fr σ) i with
        | none =>
          rw [tp_eM_n hq he]
          by_cases z : 0 < tp_fr σ i
          · rw [if_pos z, if_neg (by show ¬ tp_fr σ i ≤ 0; exact Int32.not_le.mpr z)]; rfl
          · rw [if_neg z, if_pos (by show tp_fr σ i ≤ 0; exact Int32.not_lt.mp z)]
        | some b =>
          rw [tp_eM_s hq he]
          by_cases z : tp_fr σ b < tp_fr σ i
          · rw [if_pos z, if_neg (by show ¬ tp_fr σ i ≤ tp_fr σ b; exact Int32.not_le.mpr z)]; rfl
          · rw [if_neg z, if_pos (by show tp_fr σ i ≤ tp_fr σ b; exact Int32.not_lt.mp z)]
theorem tp_eM_12 {q : Nat → Bool} {f : Nat → Int32} {i b : Nat} (hi : i ≤ 12) (h : tp_eM q f i = some b) : b < 12 := by
  have := (tp_eM_some h).1
  omega
theorem tp_M_empT {σ τ : tp_St} (I : tp_Inv σ) (R : tp_Rel tp_noX σ τ) {q : Nat → Bool} {i : Nat} (hi : i < 12) (hq : q i = true) (hf : 0 < tp_fr σ i) {α : Type} (K : Int32 → Option α) :
    (if tp_enc (tp_eM q (tp_fr σ) i) < 0 then K (tp_nI i) else (fM_freeOn τ (tp_nI i)).bind fun a => (fM_freeOn τ (tp_enc (tp_eM q (tp_fr σ) i))).bind fun b => if a ≤ b then K (tp_enc (tp_eM q (tp_fr σ) i)) else K (tp_nI i)) = K (tp_enc (tp_eM q (tp_fr σ) (i + 1))) := by
  cases he : tp_eM q (tp_fr σ) i with
  | none => rw [if_pos (by show (-1 : Int32) < 0; decide), tp_eM_n hq he, if_pos hf]; rfl
  | some b =>
    have hb : b < 12 := tp_eM_12 (by omega) he
    rw [tp_eM_s hq he]
    show (if tp_nI b < 0 then K (tp_nI i) else (fM_freeOn τ (tp_nI i)).bind fun a => (fM_freeOn τ (tp_nI b)).bind fun b' => if a ≤ b' then K (tp_nI b) else K (tp_nI i)) = _
    rw [if_neg (tp_nI_nn (by omega)), tp_M_freeOn I R hi, Option.bind_some, tp_M_freeOn I R hb, Option.bind_some]
    by_cases z : tp_fr σ b < tp_fr σ i
    · rw [if_pos z, if_neg (Int32.not_le.mpr z)]; rfl
    · rw [if_neg z, if_pos (Int32.not_lt.mp z)]; rfl
theorem tp_M_emp1 {σ τ : tp_St} (I : tp_Inv σ) (R : tp_Rel tp_noX σ τ) (x : Int32) : fM_emptiest τ x (-1) = some (tp_enc (tp_eM (tp_qB σ x) (tp_fr σ) 12)) := by
  refine tp_acc_loop0 (F := fun n (b : Int32) y => fM_emptiest_L5 τ x (-1) n b y) (N := 12) (acc := fun i => tp_enc (tp_eM (tp_qB σ x) (tp_fr σ) i)) ?_ ?_
  · show fM_emptiest_L5 τ x (-1) 1 _ (tp_nI 12) = _
    rw [fM_emptiest_L5, if_pos (by decide)]
  · intro n i hi
    show fM_emptiest_L5 τ x (-1) (n + 1) (tp_enc (tp_eM (tp_qB σ x) (tp_fr σ) i)) (tp_nI i) = fM_emptiest_L5 τ x (-1) n (tp_enc (tp_eM (tp_qB σ x) (tp_fr σ) (i + 1))) (tp_nI i + 1)
    rw [fM_emptiest_L5, if_neg (tp_gd hi), tp_M_stays R hi, Option.bind_some, tp_if_bI]
    cases hs : tp_sy σ i with
    | false => rw [if_neg (by decide), tp_eM_no (q := tp_qB σ x) (n := i) (by rw [tp_qB, hs, Bool.and_false])]
    | true =>
      rw [if_pos rfl]
      by_cases y : tp_nI i = x
      · rw [if_pos y, tp_eM_no (q := tp_qB σ x) (n := i) (by rw [tp_qB, decide_eq_false (fun z => z y)]; rfl)]
      · have hq : tp_qB σ x i = true := by rw [tp_qB, hs, decide_eq_true y]; rfl
        rw [if_neg y, tp_M_freeOn I R hi, Option.bind_some]
        by_cases z : 0 < tp_fr σ i
        · rw [if_neg (Int32.not_le.mpr z), if_pos (by decide : (-1 : Int32) < 0)]
          have := tp_M_empT I R hi hq z (fun a => fM_emptiest_L5 τ x (-1) n a (tp_nI i + 1))
          rw [tp_M_freeOn I R hi, Option.bind_some] at this
          exact this
        · rw [if_pos (Int32.not_lt.mp z)]
          cases he : tp_eM (tp_qB σ x) (tp_fr σ) i with
          | none => rw [tp_eM_n hq he, if_neg z]
          | some b => rw [tp_eM_s hq he, if_neg (fun w => z (Int32.lt_trans (tp_eM_some he).2.2 w))]
theorem tp_M_emp2 {σ τ : tp_St} (I : tp_Inv σ) (R : tp_Rel tp_noX σ τ) {c : Nat} (hc : c < 400) : fM_emptiest τ (-1) (tp_nI c) = some (tp_enc (tp_eM (tp_qO σ c) (tp_fr σ) 12)) := by
  refine tp_acc_loop0 (F := fun n (b : Int32) y => fM_emptiest_L5 τ (-1) (tp_nI c) n b y) (N := 12) (acc := fun i => tp_enc (tp_eM (tp_qO σ c) (tp_fr σ) i)) ?_ ?_
  · show fM_emptiest_L5 τ (-1) (tp_nI c) 1 _ (tp_nI 12) = _
    rw [fM_emptiest_L5, if_pos (by decide)]
  · intro n i hi
    show fM_emptiest_L5 τ (-1) (tp_nI c) (n + 1) (tp_enc (tp_eM (tp_qO σ c) (tp_fr σ) i)) (tp_nI i) = fM_emptiest_L5 τ (-1) (tp_nI c) n (tp_enc (tp_eM (tp_qO σ c) (tp_fr σ) (i + 1))) (tp_nI i + 1)
    rw [fM_emptiest_L5, if_neg (tp_gd hi), tp_M_stays R hi, Option.bind_some, tp_if_bI]
    cases hs : tp_sy σ i with
    | false => rw [if_neg (by decide), tp_eM_no (q := tp_qO σ c) (n := i) (by rw [tp_qO, hs, Bool.and_false])]
    | true =>
      rw [if_pos rfl, if_neg (tp_nI_m (by omega)), tp_M_freeOn I R hi, Option.bind_some]
      by_cases z : 0 < tp_fr σ i
      · rw [if_neg (Int32.not_le.mpr z), if_neg (tp_nI_nn (by omega)), tp_M_isOn I R hc hi, Option.bind_some, tp_if_bI]
        cases ho : tp_oN σ c i with
        | true => rw [if_pos rfl, tp_eM_no (q := tp_qO σ c) (n := i) (by rw [tp_qO, ho]; rfl)]
        | false =>
          have hq : tp_qO σ c i = true := by rw [tp_qO, hs, ho]; rfl
          rw [if_neg (by decide)]
          have := tp_M_empT I R hi hq z (fun a => fM_emptiest_L5 τ (-1) (tp_nI c) n a (tp_nI i + 1))
          rw [tp_M_freeOn I R hi, Option.bind_some] at this
          exact this
      · rw [if_pos (Int32.not_lt.mp z)]
        cases ho : tp_oN σ c i with
        | true => rw [tp_eM_no (q := tp_qO σ c) (n := i) (by rw [tp_qO, ho]; rfl)]
        | false =>
          have hq : tp_qO σ c i = true := by rw [tp_qO, hs, ho]; rfl
          cases he : tp_eM (tp_qO σ c) (tp_fr σ) i with
          | none => rw [tp_eM_n hq he, if_neg z]
          | some b => rw [tp_eM_s hq he, if_neg (fun w => z (Int32.lt_trans (tp_eM_some he).2.2 w))]
def tp_cP (q : Nat → Bool) (f : Nat → Int32) : Nat → Int32 × Int32
  | 0 => (0, 0)
  | n + 1 => if q n then ((tp_cP q f n).1 + f n, if (tp_cP q f n).2 < f n then f n else (tp_cP q f n).2) else tp_cP q f n
def tp_cap (q : Nat → Bool) (f : Nat → Int32) : Int32 := if (tp_cP q f 12).1 - (tp_cP q f 12).2 < (tp_cP q f 12).1 / 2 then (tp_cP q f 12).1 - (tp_cP q f 12).2 else (tp_cP q f 12).1 / 2
theorem tp_C_cap {σ : tp_St} (x : Int32) : fC_capacityWithout σ x = some (tp_cap (tp_qB σ x) (σ 0)) := by
  refine tp_acc_loop0 (F := fun n (b : Int32 × Int32) y => fC_capacityWithout_L7 σ x n b.1 b.2 y) (N := 12) (acc := fun i => tp_cP (tp_qB σ x) (σ 0) i) ?_ ?_
  · show fC_capacityWithout_L7 σ x 1 _ _ (tp_nI 12) = _
    rw [fC_capacityWithout_L7, if_pos (by decide)]; rfl
  · intro n i hi
    show fC_capacityWithout_L7 σ x (n + 1) _ _ (tp_nI i) = fC_capacityWithout_L7 σ x n (tp_cP (tp_qB σ x) (σ 0) (i + 1)).1 (tp_cP (tp_qB σ x) (σ 0) (i + 1)).2 (tp_nI i + 1)
    rw [fC_capacityWithout_L7, if_neg (tp_gd hi), tp_cP]
    by_cases y : tp_nI i = x
    · rw [if_pos y, if_neg (show ¬ tp_qB σ x i = true by rw [tp_qB, decide_eq_false (fun z => z y), Bool.false_and]; decide)]
    · rw [if_neg y, tp_C_stays hi, Option.bind_some, tp_if_bI]
      cases hs : tp_sy σ i with
      | false => rw [if_neg (by decide), if_neg (show ¬ tp_qB σ x i = true by rw [tp_qB, hs, Bool.and_false]; decide)]
      | true => rw [if_pos rfl, if_pos (show tp_qB σ x i = true by rw [tp_qB, hs, decide_eq_true (show tp_nI i ≠ x from y)]; rfl), if_neg (tp_bd hi), tp_td hi]
theorem tp_M_cap {σ τ : tp_St} (R : tp_Rel tp_noX σ τ) (x : Int32) : fM_capacity τ x = some (tp_cap (tp_qB σ x) (σ 0)) := by
  refine tp_acc_loop0 (F := fun n (b : Int32 × Int32) y => fM_capacity_L7 τ x n b.1 b.2 y) (N := 12) (acc := fun i => tp_cP (tp_qB σ x) (σ 0) i) ?_ ?_
  · show fM_capacity_L7 τ x 1 _ _ (tp_nI 12) = _
    rw [fM_capacity_L7, if_pos (by decide), tp_cap]
    by_cases z : (tp_cP (tp_qB σ x) (σ 0) 12).1 - (tp_cP (tp_qB σ x) (σ 0) 12).2 < (tp_cP (tp_qB σ x) (σ 0) 12).1 / 2
    · rw [if_pos z, if_pos (Int32.le_of_lt z)]
    · rw [if_neg z]
      by_cases w : (tp_cP (tp_qB σ x) (σ 0) 12).1 - (tp_cP (tp_qB σ x) (σ 0) 12).2 ≤ (tp_cP (tp_qB σ x) (σ 0) 12).1 / 2
      · rw [if_pos w, Int32.le_antisymm w (Int32.not_lt.mp z)]
      · rw [if_neg w]
  · intro n i hi
    show fM_capacity_L7 τ x (n + 1) _ _ (tp_nI i) = fM_capacity_L7 τ x n (tp_cP (tp_qB σ x) (σ 0) (i + 1)).1 (tp_cP (tp_qB σ x) (σ 0) (i + 1)).2 (tp_nI i + 1)
    rw [fM_capacity_L7, if_neg (tp_gd hi), tp_M_stays R hi, Option.bind_some, tp_if_bI, tp_cP]
    cases hs : tp_sy σ i with
    | false => rw [if_neg (by decide), if_neg (show ¬ tp_qB σ x i = true by rw [tp_qB, hs, Bool.and_false]; decide)]
    | true =>
      rw [if_pos rfl]
      by_cases y : tp_nI i = x
      · rw [if_pos y, if_neg (show ¬ tp_qB σ x i = true by rw [tp_qB, decide_eq_false (fun z => z y), Bool.false_and]; decide)]
      · rw [if_neg y, if_neg (tp_bd hi), tp_td hi, R.pl hi, if_pos (show tp_qB σ x i = true by rw [tp_qB, hs, decide_eq_true (show tp_nI i ≠ x from y)]; rfl)]
        by_cases z : (tp_cP (tp_qB σ x) (σ 0) i).2 < σ 0 i
        · rw [if_neg (Int32.not_le.mpr z), if_pos z]
        · rw [if_pos (Int32.not_lt.mp z), if_neg z]
def tp_cw (σ : tp_St) (k : Nat) : Nat := tp_cntF (fun c => decide (σ 3 c ≠ 0) && decide (tp_nc σ c = k)) 400
def tp_al (σ : tp_St) : Nat := tp_cntF (fun c => decide (σ 3 c ≠ 0)) 400
theorem tp_C_cw {σ : tp_St} {k : Nat} (hk : k < 3) : fC_chunksWith σ (tp_nI k) = some (tp_nI (tp_cw σ k)) :=
  tp_cnt_loop (F := fun n a x => fC_chunksWith_L4 σ (tp_nI k) n a x) (N := 400) (p := fun c => decide (σ 3 c ≠ 0) && decide (tp_nc σ c = k)) (by rw [fC_chunksWith_L4, if_pos (by decide)]; rfl) (fun n i a hi => by
    show fC_chunksWith_L4 σ (tp_nI k) (n + 1) a (tp_nI i) = fC_chunksWith_L4 σ (tp_nI k) n _ (tp_nI i + 1)
    rw [fC_chunksWith_L4, if_neg (tp_g4 hi), if_neg (tp_b4 hi), tp_t4 hi]
    by_cases y : σ 3 i = 0
    · rw [if_pos y, decide_eq_false (fun z => z y)]; rfl
    · have := tp_nc_lt σ i
      rw [if_neg y, decide_eq_true y, tp_C_copies hi, Option.bind_some, Bool.true_and]
      by_cases z : tp_nc σ i = k
      · rw [decide_eq_true z, z, if_pos rfl]; rfl
      · rw [decide_eq_false z, if_neg (fun w => z ((tp_nI_eq (by omega) (by omega)).mp w))]; rfl)
theorem tp_M_cw {X : Nat → Prop} {σ τ : tp_St} (I : tp_Inv σ) (R : tp_Rel X σ τ) {k : Nat} (hk : k < 3) : fM_countWith τ (tp_nI k) = some (tp_nI (tp_cw σ k)) :=
  tp_cnt_loop (F := fun n a x => fM_countWith_L4 τ (tp_nI k) n a x) (N := 400) (p := fun c => decide (σ 3 c ≠ 0) && decide (tp_nc σ c = k)) (by rw [fM_countWith_L4, if_pos (by decide)]; rfl) (fun n i a hi => by
    show fM_countWith_L4 τ (tp_nI k) (n + 1) a (tp_nI i) = fM_countWith_L4 τ (tp_nI k) n _ (tp_nI i + 1)
    rw [fM_countWith_L4, if_neg (tp_g4 hi), if_neg (tp_b4 hi), tp_t4 hi, R.th hi]
    by_cases y : σ 3 i = 0
    · rw [if_pos y, decide_eq_false (fun z => z y)]; rfl
    · have := tp_nc_lt σ i
      rw [if_neg y, decide_eq_true y, tp_M_howMany I R hi, Option.bind_some, Bool.true_and]
      by_cases z : tp_nc σ i = k
      · rw [decide_eq_true z, z, if_pos rfl]; rfl
      · rw [decide_eq_false z, if_neg (fun w => z ((tp_nI_eq (by omega) (by omega)).mp w))]; rfl)
theorem tp_C_al {σ : tp_St} : fC_allChunks σ = some (tp_nI (tp_al σ)) :=
  tp_cnt_loop (F := fun n a x => fC_allChunks_L4 σ n a x) (N := 400) (p := fun c => decide (σ 3 c ≠ 0)) (by rw [fC_allChunks_L4, if_pos (by decide)]; rfl) (fun n i a hi => by
    show fC_allChunks_L4 σ (n + 1) a (tp_nI i) = fC_allChunks_L4 σ n _ (tp_nI i + 1)
    rw [fC_allChunks_L4, if_neg (tp_g4 hi), if_neg (tp_b4 hi), tp_t4 hi]
    by_cases y : σ 3 i = 0
    · rw [if_pos y, decide_eq_false (fun z => z y)]; rfl
    · rw [if_neg y, decide_eq_true y]; rfl)
theorem tp_al_cw (σ : tp_St) : tp_al σ = tp_cw σ 0 + tp_cw σ 1 + tp_cw σ 2 := by
  unfold tp_al tp_cw
  show tp_sumF _ 400 = tp_sumF _ 400 + tp_sumF _ 400 + tp_sumF _ 400
  rw [← tp_sumF_add, ← tp_sumF_add]
  refine tp_sumF_congr (fun i _ => ?_)
  have := tp_nc_lt σ i
  by_cases y : σ 3 i = 0
  · show (decide (σ 3 i ≠ 0)).toNat = (decide (σ 3 i ≠ 0) && decide (tp_nc σ i = 0)).toNat + (decide (σ 3 i ≠ 0) && decide (tp_nc σ i = 1)).toNat + (decide (σ 3 i ≠ 0) && decide (tp_nc σ i = 2)).toNat
    rw [decide_eq_false (show ¬ σ 3 i ≠ 0 from fun z => z y)]; rfl
  · show (decide (σ 3 i ≠ 0)).toNat = (decide (σ 3 i ≠ 0) && decide (tp_nc σ i = 0)).toNat + (decide (σ 3 i ≠ 0) && decide (tp_nc σ i = 1)).toNat + (decide (σ 3 i ≠ 0) && decide (tp_nc σ i = 2)).toNat
    rw [decide_eq_true (show σ 3 i ≠ 0 from y)]
    rcases (show tp_nc σ i = 0 ∨ tp_nc σ i = 1 ∨ tp_nc σ i = 2 from by omega) with h | h | h <;> rw [h] <;> rfl
theorem tp_M_al {X : Nat → Prop} {σ τ : tp_St} (I : tp_Inv σ) (R : tp_Rel X σ τ) : fM_chunkCount τ = some (tp_nI (tp_al σ)) := by
  rw [fM_chunkCount, show fM_countWith τ 0 = _ from tp_M_cw I R (k := 0) (by omega), Option.bind_some, show fM_countWith τ 1 = _ from tp_M_cw I R (k := 1) (by omega), Option.bind_some, show fM_countWith τ 2 = _ from tp_M_cw I R (k := 2) (by omega), Option.bind_some, tp_al_cw, tp_nI_add, tp_nI_add]
def tp_lS (σ : tp_St) : Nat → Int32
  | 0 => 0
  | n + 1 => if σ 2 n = 0 then tp_lS σ n else tp_lS σ n + σ 1 n
theorem tp_C_col {σ : tp_St} : fC_copiesOnLeaving σ = some (tp_lS σ 12) := by
  refine tp_acc_loop0 (F := fun n (b : Int32) y => fC_copiesOnLeaving_L4 σ n b y) (N := 12) (acc := fun i => tp_lS σ i) ?_ ?_
  · show fC_copiesOnLeaving_L4 σ 1 _ (tp_nI 12) = _
    rw [fC_copiesOnLeaving_L4, if_pos (by decide)]
  · intro n i hi
    show fC_copiesOnLeaving_L4 σ (n + 1) (tp_lS σ i) (tp_nI i) = fC_copiesOnLeaving_L4 σ n (tp_lS σ (i + 1)) (tp_nI i + 1)
    rw [fC_copiesOnLeaving_L4, if_neg (tp_gd hi), if_neg (tp_bd hi), tp_td hi, tp_lS]
    by_cases y : σ 2 i = 0
    · rw [if_pos y, if_pos y]
    · rw [if_neg y, if_neg y]
theorem tp_C_dt {σ : tp_St} : fC_disksThere σ = some (tp_nI (tp_cntF (tp_th σ) 12)) :=
  tp_cnt_loop (F := fun n a x => fC_disksThere_L4 σ n a x) (N := 12) (p := tp_th σ) (by rw [fC_disksThere_L4, if_pos (by decide)]) (fun n i a hi => by
    show fC_disksThere_L4 σ (n + 1) a (tp_nI i) = fC_disksThere_L4 σ n _ (tp_nI i + 1)
    rw [fC_disksThere_L4, if_neg (tp_gd hi), tp_C_isThere hi, Option.bind_some, tp_if_bI]
    cases tp_th σ i <;> rfl)
theorem tp_Inv.lv {σ : tp_St} (I : tp_Inv σ) {d : Nat} (hd : d < 12) (h : σ 2 d ≠ 0) : 0 < σ 0 d ∧ σ 2 d = 1 ∧ 0 < tp_cn σ d := by
  rcases I.2.2.1 d hd with h1 | ⟨h1, h2⟩
  · exact absurd h1 h
  · obtain ⟨P, h3, h4, h5⟩ := I.1 d hd
    exact ⟨by rw [h4]; exact (tp_nI_pos (by omega)).mpr (by omega), h1, h2⟩
theorem tp_M_countL {σ τ : tp_St} (I : tp_Inv σ) (R : tp_Rel tp_noX σ τ) (x : Int32) : fM_count_L35 x 13 0 0 0 τ = fM_count_L35 x 1 (tp_nI (tp_cntF (tp_th σ) 12)) (tp_lS σ 12) (tp_nI 12) τ := by
  refine tp_acc_loop0 (F := fun n (b : Int32 × Int32) y => fM_count_L35 x n b.1 b.2 y τ) (N := 12) (acc := fun i => (tp_nI (tp_cntF (tp_th σ) i), tp_lS σ i)) rfl ?_
  intro n i hi
  show fM_count_L35 x (n + 1) (tp_nI (tp_cntF (tp_th σ) i)) (tp_lS σ i) (tp_nI i) τ = fM_count_L35 x n (tp_nI (tp_cntF (tp_th σ) i + (tp_th σ i).toNat)) (tp_lS σ (i + 1)) (tp_nI i + 1) τ
  rw [fM_count_L35, if_neg (tp_gd hi), if_neg (tp_bd hi), tp_td hi, R.pl hi, tp_lS, tp_th]
  by_cases z : 0 < σ 0 i
  · rw [if_neg (Int32.not_le.mpr z), if_neg (Int32.not_le.mpr z), (R.1 i hi).2 z, decide_eq_true z, tp_M_used I R hi, Option.bind_some, I.2.1 i hi, tp_nI_s]
    by_cases y : σ 2 i = 0
    · rw [if_pos y, if_pos y]; rfl
    · rw [if_neg y, if_neg y]; rfl
  · have y : σ 2 i = 0 := by
      by_cases w : σ 2 i = 0
      · exact w
      · exact absurd (I.lv hi w).1 z
    rw [if_pos (Int32.not_lt.mp z), if_pos (Int32.not_lt.mp z), decide_eq_false z, if_pos y]; rfl
