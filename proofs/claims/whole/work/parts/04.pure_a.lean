abbrev tp_nI (n : Nat) : Int32 := Int32.ofNat n
theorem tp_nI_t {i : Nat} (h : i < 2000000) : (tp_nI i).toNatClampNeg = i := Int32.toNatClampNeg_ofNat_of_lt (by omega)
theorem tp_nI_le {i j : Nat} (hi : i < 2000000) (hj : j < 2000000) : tp_nI i ≤ tp_nI j ↔ i ≤ j := Int32.ofNat_le_iff_le (by omega) (by omega)
theorem tp_nI_lt {i j : Nat} (hi : i < 2000000) (hj : j < 2000000) : tp_nI i < tp_nI j ↔ i < j := Int32.ofNat_lt_iff_lt (by omega) (by omega)
theorem tp_nI_eq {i j : Nat} (hi : i < 2000000) (hj : j < 2000000) : tp_nI i = tp_nI j ↔ i = j := ⟨fun h => by rw [← tp_nI_t hi, h, tp_nI_t hj], fun h => by rw [h]⟩
theorem tp_nI_add (a b : Nat) : tp_nI (a + b) = tp_nI a + tp_nI b := Int32.ofNat_add a b
theorem tp_nI_mul (a b : Nat) : tp_nI (a * b) = tp_nI a * tp_nI b := Int32.ofNat_mul a b
theorem tp_nI_s (i : Nat) : tp_nI i + 1 = tp_nI (i + 1) := (Int32.ofNat_add i 1).symm
theorem tp_nI_nn {i : Nat} (h : i < 2000000) : ¬ tp_nI i < 0 := fun z => absurd ((tp_nI_lt (j := 0) h (by omega)).mp z) (by omega)
theorem tp_nI_0 {i : Nat} (h : i < 2000000) : tp_nI i = 0 ↔ i = 0 := tp_nI_eq (j := 0) h (by omega)
theorem tp_nI_pos {i : Nat} (h : i < 2000000) : 0 < tp_nI i ↔ 0 < i := tp_nI_lt (i := 0) (by omega) h
theorem tp_nI_np {i : Nat} (h : i < 2000000) : tp_nI i ≤ 0 ↔ i = 0 := by
  have := tp_nI_le (j := 0) h (by omega)
  exact ⟨fun z => by have := this.mp z; omega, fun z => this.mpr (by omega)⟩
theorem tp_nI_m {i : Nat} (h : i < 2000000) : tp_nI i ≠ -1 := fun z => tp_nI_nn h (by rw [z]; decide)
theorem tp_nI_m' {i : Nat} (h : i < 2000000) : (-1 : Int32) ≠ tp_nI i := fun z => tp_nI_m h z.symm
theorem tp_g4 {i : Nat} (h : i < 400) : ¬ (400 : Int32) ≤ tp_nI i := fun z => absurd ((tp_nI_le (i := 400) (by omega) (by omega)).mp z) (by omega)
theorem tp_gd {i : Nat} (h : i < 12) : ¬ (12 : Int32) ≤ tp_nI i := fun z => absurd ((tp_nI_le (i := 12) (by omega) (by omega)).mp z) (by omega)
theorem tp_b4 {i : Nat} (h : i < 400) : ¬ tp_oob (tp_nI i) 400 := fun z => z.elim (tp_nI_nn (by omega)) (fun z => by rw [tp_nI_t (by omega)] at z; omega)
theorem tp_bd {i : Nat} (h : i < 12) : ¬ tp_oob (tp_nI i) 12 := fun z => z.elim (tp_nI_nn (by omega)) (fun z => by rw [tp_nI_t (by omega)] at z; omega)
theorem tp_bw {i : Nat} (h : i < 1600) : ¬ tp_oob (tp_nI i) 1600 := fun z => z.elim (tp_nI_nn (by omega)) (fun z => by rw [tp_nI_t (by omega)] at z; omega)
theorem tp_t4 {i : Nat} (h : i < 400) : (tp_nI i).toNatClampNeg = i := tp_nI_t (by omega)
theorem tp_td {i : Nat} (h : i < 12) : (tp_nI i).toNatClampNeg = i := tp_nI_t (by omega)
theorem tp_int_cases (N : Nat) (hN : N < 2000000) (x : Int32) : (∃ d, d < N ∧ x = tp_nI d) ∨ x < 0 ∨ tp_nI N ≤ x := by
  by_cases h : x < 0
  · exact .inr (.inl h)
  · have h0 : tp_nI x.toNatClampNeg = x := Int32.ofNat_toNatClampNeg x (Int32.not_lt.mp h)
    by_cases h1 : x.toNatClampNeg < N
    · exact .inl ⟨_, h1, h0.symm⟩
    · refine .inr (.inr ?_)
      rw [← h0]
      exact (Int32.ofNat_le_iff_le (by omega) x.toNatClampNeg_lt).mpr (by omega)
def tp_findF (p : Nat → Bool) : Nat → Nat → Option Nat
  | 0, _ => none
  | k + 1, i => if p i then some i else tp_findF p k (i + 1)
theorem tp_findF_some {p : Nat → Bool} : ∀ {k i j : Nat}, tp_findF p k i = some j → i ≤ j ∧ j < i + k ∧ p j = true ∧ ∀ m, i ≤ m → m < j → p m = false := by
  intro k
  induction k with
  | zero => intro i j h; cases h
  | succ k ih =>
    intro i j h
    rw [tp_findF] at h
    by_cases hp : p i = true
    · rw [if_pos hp] at h
      cases h
      exact ⟨Nat.le_refl _, by omega, hp, fun m h1 h2 => absurd h1 (by omega)⟩
    · rw [if_neg hp] at h
      obtain ⟨h1, h2, h3, h4⟩ := ih h
      refine ⟨by omega, by omega, h3, fun m h5 h6 => ?_⟩
      rcases Nat.lt_or_ge i m with h7 | h7
      · exact h4 m h7 h6
      · have : m = i := by omega
        rw [this]; exact Bool.eq_false_iff.mpr hp
theorem tp_findF_none {p : Nat → Bool} : ∀ {k i : Nat}, tp_findF p k i = none → ∀ m, i ≤ m → m < i + k → p m = false := by
  intro k
  induction k with
  | zero => intro i _ m h1 h2; omega
  | succ k ih =>
    intro i h m h1 h2
    rw [tp_findF] at h
    by_cases hp : p i = true
    · rw [if_pos hp] at h; cases h
    · rw [if_neg hp] at h
      rcases Nat.lt_or_ge i m with h7 | h7
      · exact ih h m h7 (by omega)
      · have : m = i := by omega
        rw [this]; exact Bool.eq_false_iff.mpr hp
theorem tp_findF_congr {p q : Nat → Bool} : ∀ {k i : Nat}, (∀ m, i ≤ m → m < i + k → p m = q m) → tp_findF p k i = tp_findF q k i := by
  intro k
  induction k with
  | zero => intro i _; rfl
  | succ k ih =>
    intro i h
    rw [tp_findF, tp_findF, h i (Nat.le_refl _) (by omega), ih (fun m h1 h2 => h m (by omega) (by omega))]
theorem tp_findF_is {p : Nat → Bool} {N j : Nat} (hj : j < N) (hp : p j = true) (hn : ∀ m, m < j → p m = false) : tp_findF p N 0 = some j := by
  cases h : tp_findF p N 0 with
  | none => have := tp_findF_none h j (by omega) (by omega); rw [hp] at this; cases this
  | some i =>
    obtain ⟨h1, h2, h3, h4⟩ := tp_findF_some h
    rcases Nat.lt_trichotomy i j with h5 | h5 | h5
    · rw [hn i h5] at h3; cases h3
    · rw [h5]
    · rw [h4 j (by omega) h5] at hp; cases hp
theorem tp_findF_no {p : Nat → Bool} {N : Nat} (hn : ∀ m, m < N → p m = false) : tp_findF p N 0 = none := by
  cases h : tp_findF p N 0 with
  | none => rfl
  | some i => obtain ⟨h1, h2, h3, h4⟩ := tp_findF_some h; rw [hn i (by omega)] at h3; cases h3
theorem tp_find_loop {α : Type} {F : Nat → Int32 → α} {N : Nat} {p : Nat → Bool} {hit : Nat → α} {miss : α} (h0 : F 1 (tp_nI N) = miss)
    (h1 : ∀ n i, i < N → F (n + 1) (tp_nI i) = if p i then hit i else F n (tp_nI i + 1)) : ∀ k i, i + k = N → F (k + 1) (tp_nI i) = (tp_findF p k i).elim miss hit := by
  intro k
  induction k with
  | zero => intro i h; rw [show i = N from by omega, h0]; rfl
  | succ k ih =>
    intro i h
    rw [h1 (k + 1) i (by omega), tp_findF]
    by_cases hp : p i = true
    · rw [if_pos hp, if_pos hp]; rfl
    · rw [if_neg hp, if_neg hp, tp_nI_s, ih (i + 1) (by omega)]
theorem tp_find_loop0 {α : Type} {F : Nat → Int32 → α} {N : Nat} {p : Nat → Bool} {hit : Nat → α} {miss : α} (h0 : F 1 (tp_nI N) = miss)
    (h1 : ∀ n i, i < N → F (n + 1) (tp_nI i) = if p i then hit i else F n (tp_nI i + 1)) : F (N + 1) 0 = (tp_findF p N 0).elim miss hit := tp_find_loop h0 h1 N 0 (Nat.zero_add N)
theorem tp_acc_loop {α β : Type} {F : Nat → β → Int32 → α} {N : Nat} {acc : Nat → β} {fin : α} (h0 : F 1 (acc N) (tp_nI N) = fin)
    (h1 : ∀ n i, i < N → F (n + 1) (acc i) (tp_nI i) = F n (acc (i + 1)) (tp_nI i + 1)) : ∀ k i, i + k = N → F (k + 1) (acc i) (tp_nI i) = fin := by
  intro k
  induction k with
  | zero => intro i h; rw [show i = N from by omega, h0]
  | succ k ih => intro i h; rw [h1 (k + 1) i (by omega), tp_nI_s, ih (i + 1) (by omega)]
theorem tp_acc_loop0 {α β : Type} {F : Nat → β → Int32 → α} {N : Nat} {acc : Nat → β} {fin : α} (h0 : F 1 (acc N) (tp_nI N) = fin)
    (h1 : ∀ n i, i < N → F (n + 1) (acc i) (tp_nI i) = F n (acc (i + 1)) (tp_nI i + 1)) : F (N + 1) (acc 0) 0 = fin := tp_acc_loop h0 h1 N 0 (Nat.zero_add N)
def tp_sumF (f : Nat → Nat) : Nat → Nat
  | 0 => 0
  | n + 1 => tp_sumF f n + f n
abbrev tp_cntF (p : Nat → Bool) (n : Nat) : Nat := tp_sumF (fun i => (p i).toNat) n
theorem tp_sumF_congr {f g : Nat → Nat} : ∀ {n : Nat}, (∀ i, i < n → f i = g i) → tp_sumF f n = tp_sumF g n := by
  intro n
  induction n with
  | zero => intro _; rfl
  | succ n ih => intro h; rw [tp_sumF, tp_sumF, ih (fun i hi => h i (by omega)), h n (by omega)]
theorem tp_cntF_congr {p q : Nat → Bool} {n : Nat} (h : ∀ i, i < n → p i = q i) : tp_cntF p n = tp_cntF q n := tp_sumF_congr (fun i hi => congrArg Bool.toNat (h i hi))
theorem tp_sumF_upd {f g : Nat → Nat} {c : Nat} : ∀ {n : Nat}, c < n → (∀ i, i < n → i ≠ c → f i = g i) → tp_sumF f n + g c = tp_sumF g n + f c := by
  intro n
  induction n with
  | zero => intro h _; omega
  | succ n ih =>
    intro hc h
    rw [tp_sumF, tp_sumF]
    by_cases e : c = n
    · rw [tp_sumF_congr (f := f) (g := g) (n := n) (fun i hi => h i (by omega) (by omega)), e]; omega
    · have := ih (by omega) (fun i hi hne => h i (by omega) hne)
      rw [h n (by omega) (by omega)]; omega
theorem tp_sumF_le {f : Nat → Nat} {b : Nat} : ∀ {n : Nat}, (∀ i, i < n → f i ≤ b) → tp_sumF f n ≤ n * b := by
  intro n
  induction n with
  | zero => intro _; rw [tp_sumF]; omega
  | succ n ih => intro h; rw [tp_sumF, Nat.succ_mul]; have := ih (fun i hi => h i (by omega)); have := h n (by omega); omega
theorem tp_sumF_add {f g : Nat → Nat} : ∀ {n : Nat}, tp_sumF (fun i => f i + g i) n = tp_sumF f n + tp_sumF g n := by
  intro n
  induction n with
  | zero => rfl
  | succ n ih => rw [tp_sumF, tp_sumF, tp_sumF, ih]; omega
theorem tp_cntF_le (p : Nat → Bool) (n : Nat) : tp_cntF p n ≤ n := by
  have := tp_sumF_le (f := fun i => (p i).toNat) (b := 1) (n := n) (fun i _ => by cases p i <;> decide)
  show tp_sumF _ n ≤ n
  omega
theorem tp_sumF_zero {f : Nat → Nat} : ∀ {n : Nat}, tp_sumF f n = 0 → ∀ i, i < n → f i = 0 := by
  intro n
  induction n with
  | zero => intro _ i hi; omega
  | succ n ih =>
    intro h i hi
    rw [tp_sumF] at h
    by_cases e : i = n
    · rw [e]; omega
    · exact ih (by omega) i (by omega)
theorem tp_sumF_all0 {f : Nat → Nat} {n : Nat} (h : ∀ i, i < n → f i = 0) : tp_sumF f n = 0 := by
  have := tp_sumF_le (f := f) (b := 0) (n := n) (fun i hi => by rw [h i hi]; exact Nat.le_refl 0)
  omega
theorem tp_cntF_full {p : Nat → Bool} : ∀ {n : Nat}, n ≤ tp_cntF p n → ∀ i, i < n → p i = true := by
  intro n
  induction n with
  | zero => intro _ i hi; omega
  | succ n ih =>
    intro h i hi
    have h1 : tp_cntF p (n + 1) = tp_cntF p n + (p n).toNat := rfl
    have h2 := tp_cntF_le p n
    have h3 : (p n).toNat ≤ 1 := by cases p n <;> decide
    by_cases e : i = n
    · rw [e]
      cases hp : p n with
      | true => rfl
      | false => rw [hp] at h1; have h4 : (false).toNat = 0 := rfl; omega
    · exact ih (by omega) i (by omega)
theorem tp_cntF_pos {p : Nat → Bool} {n i : Nat} (hi : i < n) (hp : p i = true) : 0 < tp_cntF p n := by
  rcases Nat.eq_zero_or_pos (tp_cntF p n) with h | h
  · have := tp_sumF_zero h i hi; rw [hp] at this; cases this
  · exact h
theorem tp_cnt_loop {α : Type} {F : Nat → Int32 → Int32 → α} {N : Nat} {p : Nat → Bool} {fin : α} (h0 : F 1 (tp_nI (tp_cntF p N)) (tp_nI N) = fin)
    (h1 : ∀ n i a, i < N → F (n + 1) a (tp_nI i) = F n (if p i then a + 1 else a) (tp_nI i + 1)) : F (N + 1) 0 0 = fin :=
  tp_acc_loop0 (acc := fun i => tp_nI (tp_cntF p i)) h0 (fun n i hi => by
    rw [h1 n i _ hi]
    congr 1
    show _ = tp_nI (tp_cntF p i + (p i).toNat)
    cases p i with
    | true => exact tp_nI_s _
    | false => rfl)
def tp_bt (x : Int32) : Int32 := if x < 0 then 0 else 1 <<< (x &&& 31)
def tp_mK (l g : Int32) : Int32 := tp_bt l + tp_bt g
abbrev tp_onB (m x : Int32) : Prop := ((m >>> (x &&& 31)) - (m >>> (x &&& 31)) / 2 * 2) = 1
def tp_VV (l g : Int32) : Prop := (l = -1 ∧ g = -1) ∨ (∃ a, a < 12 ∧ l = tp_nI a ∧ g = -1) ∨ (∃ a b, a < b ∧ b < 12 ∧ l = tp_nI a ∧ g = tp_nI b)
theorem tp_bt_n {d : Nat} (h : d < 12) : 1 <<< (tp_nI d &&& 31) = tp_bt (tp_nI d) := by rw [tp_bt, if_neg (tp_nI_nn (by omega))]
theorem tp_on_0 : ∀ d, d < 12 → ¬ tp_onB (tp_mK (-1) (-1)) (tp_nI d) := by decide +kernel
theorem tp_on_1 : ∀ a, a < 12 → ∀ d, d < 12 → (tp_onB (tp_mK (tp_nI a) (-1)) (tp_nI d) ↔ d = a) := by decide +kernel
theorem tp_on_2 : ∀ a, a < 12 → ∀ b, b < 12 → a < b → ∀ d, d < 12 → (tp_onB (tp_mK (tp_nI a) (tp_nI b)) (tp_nI d) ↔ d = a ∨ d = b) := by decide +kernel
theorem tp_mk_z : tp_mK (-1) (-1) = 0 := by decide +kernel
theorem tp_mk_n1 : ∀ a, a < 12 → tp_mK (tp_nI a) (-1) ≠ 0 := by decide +kernel
theorem tp_mk_n2 : ∀ a, a < 12 → ∀ b, b < 12 → a < b → tp_mK (tp_nI a) (tp_nI b) ≠ 0 := by decide +kernel
theorem tp_mk_sw (l g : Int32) : tp_mK l g = tp_mK g l := Int32.add_comm _ _
theorem tp_bt_m : tp_bt (-1) = 0 := by decide +kernel
