def tp_rm (σ : tp_St) (D c : Nat) : Int32 := if tp_oN σ c D then -1 else if tp_syv σ (σ 4 c) then σ 4 c else if tp_syv σ (σ 5 c) then σ 5 c else -1
theorem tp_C_cfr {σ : tp_St} (I : tp_Inv σ) {c : Nat} (hc : c < 400) (D : Nat) : fC_copyForRoom σ (tp_nI c) (tp_nI D) = some (tp_rm σ D c) := by
  rw [fC_copyForRoom, tp_C_isOn' hc D, Option.bind_some, tp_if_bI, tp_rm]
  cases tp_oN σ c D with
  | true => rfl
  | false =>
    rw [if_neg (by decide), if_neg (tp_b4 hc), tp_t4 hc, tp_C_staysv (I.vv hc).l, Option.bind_some, tp_if_bI, tp_C_staysv (I.vv hc).g, Option.bind_some, tp_if_bI]
    cases tp_syv σ (σ 4 c) with
    | true => rfl
    | false => cases tp_syv σ (σ 5 c) <;> rfl
theorem tp_syv_d {σ : tp_St} {x : Int32} (hx : tp_DD x) (h : tp_syv σ x = true) : ∃ a, a < 12 ∧ x = tp_nI a ∧ tp_sy σ a = true := by
  rcases hx with hx | ⟨a, ha, hx⟩
  · rw [hx, tp_syv_m] at h; cases h
  · exact ⟨a, ha, hx, by rw [hx, tp_syv_n σ ha] at h; exact h⟩
theorem tp_rm_some {σ : tp_St} (I : tp_Inv σ) {D c : Nat} (hc : c < 400) (h : tp_rm σ D c ≠ -1) : ∃ a, a < 12 ∧ tp_rm σ D c = tp_nI a ∧ tp_oN σ c a = true ∧ tp_oN σ c D = false ∧ tp_sy σ a = true := by
  rw [tp_rm] at h
  rw [tp_rm]
  cases ho : tp_oN σ c D with
  | true => rw [ho, if_pos rfl] at h; exact absurd rfl h
  | false =>
    rw [ho, if_neg (by decide)] at h
    rw [if_neg (by decide)]
    cases h1 : tp_syv σ (σ 4 c) with
    | true =>
      obtain ⟨a, ha, e, hs⟩ := tp_syv_d (I.vv hc).l h1
      exact ⟨a, ha, by rw [if_pos rfl]; exact e, by rw [tp_oN, e, decide_eq_true rfl]; rfl, rfl, hs⟩
    | false =>
      rw [h1, if_neg (by decide)] at h
      cases h2 : tp_syv σ (σ 5 c) with
      | true =>
        obtain ⟨a, ha, e, hs⟩ := tp_syv_d (I.vv hc).g h2
        exact ⟨a, ha, by rw [if_neg (by decide), if_pos rfl]; exact e, by rw [tp_oN, e, decide_eq_true rfl, Bool.or_true], rfl, hs⟩
      | false => rw [h2, if_neg (by decide)] at h; exact absurd rfl h
def tp_fR (σ : tp_St) (D : Nat) : Option Nat := tp_findF (fun c => decide (tp_rm σ D c ≠ -1)) 400 0
theorem tp_C_mr {σ : tp_St} (I : tp_Inv σ) (D : Nat) : fC_makeRoomBeside σ (tp_nI D) = (tp_fR σ D).elim (some (-1, σ)) (fun c => (fC_moveCopy σ (tp_nI c) (tp_rm σ D c) (tp_nI D)).bind fun q => some (tp_rm σ D c, tp_up q 7 0 (q 7 0 + 1))) := by
  refine tp_find_loop0 (F := fun n x => fC_makeRoomBeside_L2 (tp_nI D) n x σ) (N := 400) ?_ ?_
  · show fC_makeRoomBeside_L2 (tp_nI D) 1 (tp_nI 400) σ = _
    rw [fC_makeRoomBeside_L2, if_pos (by decide)]
  · intro n i hi
    show fC_makeRoomBeside_L2 (tp_nI D) (n + 1) (tp_nI i) σ = _
    rw [fC_makeRoomBeside_L2, if_neg (tp_g4 hi), tp_C_cfr I hi, Option.bind_some]
    by_cases z : tp_rm σ D i = -1
    · rw [if_pos z, decide_eq_false (fun w => w z)]; rfl
    · rw [if_neg z, decide_eq_true z]; rfl
theorem tp_fd_lg {σ : tp_St} {c : Nat} (h : tp_VV (σ 4 c) (σ 5 c)) : tp_findF (fun e => tp_oN σ c e && tp_sy σ e) 12 0 = if tp_syv σ (σ 4 c) then some (σ 4 c).toNatClampNeg else if tp_syv σ (σ 5 c) then some (σ 5 c).toNatClampNeg else none := by
  have hne : ∀ e, e < 12 → decide ((-1 : Int32) = tp_nI e) = false := fun e he => decide_eq_false (tp_nI_m' (by omega))
  have hee : ∀ a e, a < 12 → e < 12 → decide (tp_nI a = tp_nI e) = decide (e = a) := fun a e ha he => decide_eq_decide.mpr ⟨fun z => ((tp_nI_eq (by omega) (by omega)).mp z).symm, fun z => by rw [z]⟩
  rcases h with ⟨h1, h2⟩ | ⟨a, ha, h1, h2⟩ | ⟨a, b, hab, hb, h1, h2⟩
  · rw [h1, h2, tp_syv_m, if_neg (by decide), if_neg (by decide)]
    exact tp_findF_no (fun m hm => by rw [tp_oN, h1, h2, hne m hm]; rfl)
  · rw [h1, h2, tp_syv_m, tp_syv_n σ ha, tp_td ha, if_neg (show ¬ false = true by decide)]
    cases hs : tp_sy σ a with
    | true =>
      rw [if_pos rfl]
      exact tp_findF_is ha (by rw [tp_oN, h1, decide_eq_true rfl, hs]; rfl) (fun m hm => by rw [tp_oN, h1, h2, hne m (by omega), hee a m ha (by omega), decide_eq_false (by omega)]; rfl)
    | false =>
      rw [if_neg (by decide)]
      exact tp_findF_no (fun m hm => by
        rw [tp_oN, h1, h2, hne m hm, hee a m ha hm]
        by_cases z : m = a
        · rw [z, hs, Bool.and_false]
        · rw [decide_eq_false z]; rfl)
  · have ha : a < 12 := by omega
    rw [h1, h2, tp_syv_n σ ha, tp_syv_n σ hb, tp_td ha, tp_td hb]
    have hp : ∀ m, m < 12 → (tp_oN σ c m && tp_sy σ m) = ((decide (m = a) || decide (m = b)) && tp_sy σ m) := fun m hm => by rw [tp_oN, h1, h2, hee a m ha hm, hee b m hb hm]
    cases hs : tp_sy σ a with
    | true =>
      rw [if_pos rfl]
      exact tp_findF_is ha (by rw [hp a ha, decide_eq_true rfl, hs]; rfl) (fun m hm => by rw [hp m (by omega), decide_eq_false (by omega), decide_eq_false (by omega)]; rfl)
    | false =>
      rw [if_neg (by decide)]
      have hz : ∀ m, m < 12 → m ≠ b → (tp_oN σ c m && tp_sy σ m) = false := fun m hm hmb => by
        rw [hp m hm, decide_eq_false hmb]
        by_cases z : m = a
        · rw [z, hs, Bool.and_false]
        · rw [decide_eq_false z]; rfl
      cases ht : tp_sy σ b with
      | true =>
        rw [if_pos rfl]
        exact tp_findF_is hb (by rw [hp b hb, decide_eq_true (rfl : b = b), ht, Bool.or_true]; rfl) (fun m hm => hz m (by omega) (by omega))
      | false =>
        rw [if_neg (by decide)]
        exact tp_findF_no (fun m hm => by
          by_cases z : m = b
          · rw [z, ht, Bool.and_false]
          · exact hz m hm z)
def tp_mT (τ : tp_St) (c : Nat) (x y : Int32) : tp_St := tp_up (tp_up τ 4 c (τ 4 c - 1 <<< (x &&& 31) + 1 <<< (y &&& 31))) 6 0 (τ 6 0 + 1)
theorem tp_M_mr {σ τ : tp_St} (I : tp_Inv σ) (R : tp_Rel tp_noX σ τ) {D : Nat} (hD : D < 12) : fM_makeRoom τ (tp_nI D) = (tp_fR σ D).elim (some (-1, τ)) (fun c => some (tp_rm σ D c, tp_mT τ c (tp_rm σ D c) (tp_nI D))) := by
  refine tp_find_loop0 (F := fun n x => fM_makeRoom_L2 (tp_nI D) n x τ) (N := 400) ?_ ?_
  · show fM_makeRoom_L2 (tp_nI D) 1 (tp_nI 400) τ = _
    rw [fM_makeRoom_L2, if_pos (by decide)]
  · intro n i hi
    show fM_makeRoom_L2 (tp_nI D) (n + 1) (tp_nI i) τ = if decide (tp_rm σ D i ≠ -1) then some (tp_rm σ D i, tp_mT τ i (tp_rm σ D i) (tp_nI D)) else fM_makeRoom_L2 (tp_nI D) n (tp_nI i + 1) τ
    rw [fM_makeRoom_L2, if_neg (tp_g4 hi), if_neg (tp_b4 hi), tp_t4 hi, R.th hi]
    by_cases y : σ 3 i = 0
    · have h4 : σ 4 i = -1 ∧ σ 5 i = -1 := by
        rcases I.2.2.2 i hi with z | z
        · exact z.2
        · rw [z.1] at y; exact absurd y (by decide)
      have hr : tp_rm σ D i = -1 := by rw [tp_rm, h4.1, h4.2, tp_syv_m, if_neg (show ¬ false = true by decide), if_neg (show ¬ false = true by decide)]; exact ite_self _
      rw [if_pos y, hr, decide_eq_false (fun w => w rfl)]; rfl
    · rw [if_neg y, tp_M_isOn I R hi hD, Option.bind_some, tp_if_bI]
      cases ho : tp_oN σ i D with
      | true =>
        have hr : tp_rm σ D i = -1 := by rw [tp_rm, ho, if_pos rfl]
        rw [if_pos rfl, hr, decide_eq_false (fun w => w rfl)]; rfl
      | false =>
        rw [if_neg (by decide)]
        have inner : fM_makeRoom_L29 (fun (σ29k : tp_St) => fM_makeRoom_L2 (tp_nI D) n (tp_nI i + 1) σ29k) (tp_nI D) (tp_nI i) 13 0 τ = (tp_findF (fun e => tp_oN σ i e && tp_sy σ e) 12 0).elim (fM_makeRoom_L2 (tp_nI D) n (tp_nI i + 1) τ) (fun e => some (tp_nI e, tp_mT τ i (tp_nI e) (tp_nI D))) := by
          refine tp_find_loop0 (F := fun n' x => fM_makeRoom_L29 (fun (σ29k : tp_St) => fM_makeRoom_L2 (tp_nI D) n (tp_nI i + 1) σ29k) (tp_nI D) (tp_nI i) n' x τ) (N := 12) ?_ ?_
          · show fM_makeRoom_L29 _ (tp_nI D) (tp_nI i) 1 (tp_nI 12) τ = _
            rw [fM_makeRoom_L29, if_pos (by decide)]
          · intro n' e he
            show fM_makeRoom_L29 _ (tp_nI D) (tp_nI i) (n' + 1) (tp_nI e) τ = _
            rw [fM_makeRoom_L29, if_neg (tp_gd he), tp_M_isOn I R hi he, Option.bind_some, tp_if_bI, tp_M_stays R he, Option.bind_some, tp_if_bI, if_neg (tp_b4 hi), tp_t4 hi]
            cases tp_oN σ i e with
            | false => rfl
            | true => cases tp_sy σ e <;> rfl
        rw [inner, tp_fd_lg (I.vv hi), tp_rm, ho, if_neg (show ¬ false = true by decide)]
        cases h1 : tp_syv σ (σ 4 i) with
        | true =>
          obtain ⟨a, ha, e, hs⟩ := tp_syv_d (I.vv hi).l h1
          rw [if_pos rfl, if_pos rfl, e, tp_td ha, decide_eq_true (tp_nI_m (by omega))]; rfl
        | false =>
          rw [if_neg (show ¬ false = true by decide), if_neg (show ¬ false = true by decide)]
          cases h2 : tp_syv σ (σ 5 i) with
          | true =>
            obtain ⟨a, ha, e, hs⟩ := tp_syv_d (I.vv hi).g h2
            rw [if_pos rfl, if_pos rfl, e, tp_td ha, decide_eq_true (tp_nI_m (by omega))]; rfl
          | false => rw [if_neg (show ¬ false = true by decide), if_neg (show ¬ false = true by decide)]; rfl
theorem tp_room_sim {σ τ : tp_St} (I : tp_Inv σ) (R : tp_Rel tp_noX σ τ) {D : Nat} (hD : D < 12) (hf : tp_cn σ D < tp_pl σ D) :
    (tp_fR σ D = none ∧ fC_makeRoomBeside σ (tp_nI D) = some (-1, σ) ∧ fM_makeRoom τ (tp_nI D) = some (-1, τ)) ∨
    ∃ c a σ' τ', c < 400 ∧ a < 12 ∧ tp_fR σ D = some c ∧ tp_oN σ c a = true ∧ tp_oN σ c D = false ∧ tp_sy σ a = true ∧ fC_makeRoomBeside σ (tp_nI D) = some (tp_nI a, σ') ∧ fM_makeRoom τ (tp_nI D) = some (tp_nI a, τ') ∧ tp_Inv σ' ∧ tp_Rel tp_noX σ' τ' ∧ τ' 0 = τ 0 ∧
      (∀ c' e, e < 12 → tp_oN σ' c' e = tp_mvO σ c a D c' e) ∧ (σ' 0 = σ 0 ∧ σ' 2 = σ 2 ∧ σ' 3 = σ 3 ∧ σ' 6 = σ 6) ∧ (∀ e, e < 12 → tp_cn σ' e + (decide (e = a)).toNat = tp_cn σ e + (decide (e = D)).toNat) := by
  rw [tp_C_mr I D, tp_M_mr I R hD]
  cases hr : tp_fR σ D with
  | none => exact .inl ⟨rfl, rfl, rfl⟩
  | some c =>
    obtain ⟨_, k1, k2, k3⟩ := tp_findF_some hr
    have hc : c < 400 := by omega
    obtain ⟨a, ha, e, oa, oD, hs⟩ := tp_rm_some I hc (of_decide_eq_true k2)
    have h2 : σ 2 a = 0 := (tp_sy_iff.mp hs).2
    obtain ⟨σ1, r1, I1, o1, ⟨s3, s6, s7⟩, se, sa, c1, R1⟩ := tp_move_spec I hc ha hD oa oD hf
    have e0 : ∀ x, σ1 0 x = σ 0 x ∧ σ1 2 x = σ 2 x := fun x => by
      by_cases z : x = a
      · rw [z]
        rcases sa with w | w
        · exact w
        · rw [h2] at w; exact absurd w.1 (by decide)
      · exact se x z
    refine .inr ⟨c, a, tp_up σ1 7 0 (σ1 7 0 + 1), tp_mT τ c (tp_nI a) (tp_nI D), hc, ha, rfl, oa, oD, hs, ?_, ?_, I1, ?_, rfl, o1, ⟨funext fun x => (e0 x).1, funext fun x => (e0 x).2, s3, s6⟩, c1⟩
    · show (fC_moveCopy σ (tp_nI c) (tp_rm σ D c) (tp_nI D)).bind (fun q => some (tp_rm σ D c, tp_up q 7 0 (q 7 0 + 1))) = _
      rw [e, r1]; rfl
    · show some (tp_rm σ D c, tp_mT τ c (tp_rm σ D c) (tp_nI D)) = _
      rw [e]
    · have k := R1 tp_noX τ R (fun w => absurd h2 w)
      rw [tp_mT, tp_bt_n ha, tp_bt_n hD]
      refine ⟨k.1, k.2.1, k.2.2.1, ?_⟩
      show τ 6 0 + 1 = σ1 7 0 + 1
      rw [show τ 6 0 = σ1 7 0 from k.2.2.2]
def tp_z4 (σ : tp_St) (f c : Nat) : tp_St := tp_up (tp_up (tp_up (tp_up σ f (4 * c) 0) f (4 * c + 1) 0) f (4 * c + 2) 0) f (4 * c + 3) 0
theorem tp_ix_C (c i : Nat) : tp_nI c * 4 + tp_nI i = tp_nI (4 * c + i) := by
  show Int32.ofNat c * Int32.ofNat 4 + Int32.ofNat i = Int32.ofNat (4 * c + i)
  rw [← tp_nI_mul, ← tp_nI_add, Nat.mul_comm]
theorem tp_ix_M (c i : Nat) : 4 * tp_nI c + tp_nI i = tp_nI (4 * c + i) := by
  show Int32.ofNat 4 * Int32.ofNat c + Int32.ofNat i = Int32.ofNat (4 * c + i)
  rw [← tp_nI_mul, ← tp_nI_add]
theorem tp_C_clS {σ : tp_St} {c i : Nat} (hc : c < 400) (hi : i < 4) (n : Nat) : fC_clearWords_L2 (tp_nI c) (n + 1) (tp_nI i) σ = fC_clearWords_L2 (tp_nI c) n (tp_nI (i + 1)) (tp_up σ 6 (4 * c + i) 0) := by
  rw [fC_clearWords_L2, if_neg (show ¬ (4 : Int32) ≤ tp_nI i from fun z => absurd ((tp_nI_le (i := 4) (by omega) (by omega)).mp z) (by omega)), tp_ix_C, if_neg (tp_bw (by omega)), tp_nI_t (by omega), tp_nI_s]
theorem tp_C_clear {σ : tp_St} {c : Nat} (hc : c < 400) : fC_clearWords σ (tp_nI c) = some (tp_z4 σ 6 c) := by
  rw [fC_clearWords, show (0 : Int32) = tp_nI 0 from rfl, tp_C_clS hc (by omega), tp_C_clS hc (by omega), tp_C_clS hc (by omega), tp_C_clS hc (by omega), fC_clearWords_L2, if_pos (by decide)]; rfl
theorem tp_M_clS {σ : tp_St} {c i : Nat} (hc : c < 400) (hi : i < 4) (n : Nat) : fM_newChunk_L107 (tp_nI c) (n + 1) (tp_nI i) σ = fM_newChunk_L107 (tp_nI c) n (tp_nI (i + 1)) (tp_up σ 5 (4 * c + i) 0) := by
  rw [fM_newChunk_L107, if_neg (show ¬ (4 : Int32) ≤ tp_nI i from fun z => absurd ((tp_nI_le (i := 4) (by omega) (by omega)).mp z) (by omega)), tp_ix_M, if_neg (tp_bw (by omega)), tp_nI_t (by omega), tp_nI_s]
theorem tp_M_clear {σ : tp_St} {c : Nat} (hc : c < 400) : fM_newChunk_L107 (tp_nI c) 5 0 σ = some (tp_nI c, tp_z4 σ 5 c) := by
  rw [show (0 : Int32) = tp_nI 0 from rfl, tp_M_clS hc (by omega), tp_M_clS hc (by omega), tp_M_clS hc (by omega), tp_M_clS hc (by omega), fM_newChunk_L107, if_pos (by decide)]; rfl
theorem tp_z4_at (σ : tp_St) (f c k : Nat) : tp_z4 σ f c f k = if k / 4 = c then 0 else σ f k := by
  rw [tp_z4, tp_up_at, tp_up_at, tp_up_at, tp_up_at]
  by_cases h : k / 4 = c
  · rw [if_pos h]
    rcases (show k = 4 * c + 3 ∨ k = 4 * c + 2 ∨ k = 4 * c + 1 ∨ k = 4 * c from by omega) with e | e | e | e <;> simp [e]
  · rw [if_neg h, if_neg (by omega), if_neg (by omega), if_neg (by omega), if_neg (by omega)]
theorem tp_Rel.z4 {X : Nat → Prop} {σ τ : tp_St} (R : tp_Rel X σ τ) (c : Nat) : tp_Rel X (tp_z4 σ 6 c) (tp_z4 τ 5 c) := by
  refine ⟨R.1, R.2.1, fun k hk => ?_, R.2.2.2⟩
  rw [tp_z4_at, tp_z4_at, R.2.2.1 k hk]
theorem tp_create_sim {σ τ : tp_St} (I : tp_Inv σ) (R : tp_Rel tp_noX σ τ) {c o t : Nat} (hc : c < 400) (h3 : σ 3 c = 0) (ho : o < 12) (ht : t < 12) (hot : o ≠ t) (fo : tp_cn σ o < tp_pl σ o) (ft : tp_cn σ t < tp_pl σ t) :
    ∃ σ' τ', ((fC_addCopy (tp_up σ 3 c (vp_nar .boolean 1)) (tp_nI c) (tp_nI o)).bind fun q12 => (fC_addCopy q12 (tp_nI c) (tp_nI t)).bind fun q14 => (fC_clearWords q14 (tp_nI c)).bind fun q16 => some (tp_nI c, q16)) = some (tp_nI c, σ') ∧
      fM_newChunk_L107 (tp_nI c) 5 0 (tp_up (tp_up τ 3 c (vp_nar .boolean 1)) 4 c ((1 <<< (tp_nI o &&& 31)) + (1 <<< (tp_nI t &&& 31)))) = some (tp_nI c, τ') ∧ tp_Inv σ' ∧ tp_Rel tp_noX σ' τ' ∧ τ' 0 = τ 0 ∧ tp_al σ' = tp_al σ + 1 := by
  have h45 : σ 4 c = -1 ∧ σ 5 c = -1 := by
    rcases I.2.2.2 c hc with z | z
    · exact z.2
    · rw [z.1] at h3; exact absurd h3 (by decide)
  rw [tp_vn1]
  have Ia : tp_Inv (tp_up σ 3 c 1) := by
    refine ⟨I.1, I.2.1, I.2.2.1, fun k hk => ?_⟩
    show ((if k = c then 1 else σ 3 k) = 0 ∧ σ 4 k = -1 ∧ σ 5 k = -1) ∨ ((if k = c then 1 else σ 3 k) = 1 ∧ tp_VV (σ 4 k) (σ 5 k))
    by_cases z : k = c
    · rw [if_pos z, z]; exact .inr ⟨rfl, .inl h45⟩
    · rw [if_neg z]; exact I.2.2.2 k hk
  have Ra : tp_Rel tp_noX (tp_up σ 3 c 1) (tp_up τ 3 c 1) := by
    refine ⟨R.1, fun k hk => ⟨?_, R.cp hk⟩, R.2.2⟩
    show (if k = c then 1 else τ 3 k) = if k = c then 1 else σ 3 k
    rw [R.th hk]
  have na : tp_nc (tp_up σ 3 c 1) c = 0 := if_pos h45.1
  have oa : ∀ e, e < 12 → tp_oN (tp_up σ 3 c 1) c e = false := fun e he => by
    show (decide (σ 4 c = tp_nI e) || decide (σ 5 c = tp_nI e)) = false
    rw [h45.1, h45.2, decide_eq_false (tp_nI_m' (by omega))]; rfl
  obtain ⟨σ1, r1, I1, o1, ⟨p0, p2, p3, p6, p7⟩, c1, R1⟩ := tp_add_spec Ia hc ho (show (if c = c then 1 else σ 3 c) = 1 from if_pos rfl) (by rw [na]; omega) (oa o ho) fo
  have n1 : tp_nc σ1 c < 2 := by
    rw [← tp_nc_cnt (I1.vv hc)]
    have k := tp_sumF_upd (f := fun e => (tp_oN σ1 c e).toNat) (g := fun e => (tp_oN (tp_up σ 3 c 1) c e).toNat) (c := o) (n := 12) ho (fun e he hne => by show (tp_oN σ1 c e).toNat = _; rw [o1 c e he, decide_eq_false hne, Bool.and_false, Bool.or_false])
    have k0 : tp_sumF (fun e => (tp_oN (tp_up σ 3 c 1) c e).toNat) 12 = 0 := tp_sumF_all0 (fun e he => by rw [oa e he]; rfl)
    have k1 : (tp_oN σ1 c o).toNat ≤ 1 := by cases tp_oN σ1 c o <;> decide
    show tp_sumF (fun e => (tp_oN σ1 c e).toNat) 12 < 2
    omega
  have ot1 : tp_oN σ1 c t = false := by rw [o1 c t ht, oa t ht, decide_eq_false (show ¬ t = o from fun z => hot z.symm), Bool.and_false]; rfl
  have f1 : tp_cn σ1 t < tp_pl σ1 t := by
    have k := c1 t ht
    rw [decide_eq_false (fun z => hot z.symm)] at k
    have t2 : (false).toNat = 0 := rfl
    have e1 : tp_pl σ1 t = tp_pl σ t := by rw [tp_pl, tp_pl, p0]; rfl
    have e2 : tp_cn (tp_up σ 3 c 1) t = tp_cn σ t := rfl
    omega
  obtain ⟨σ2, r2, I2, o2, ⟨q0, q2, q3, q6, q7⟩, c2, R2⟩ := tp_add_spec I1 hc ht (by rw [p3]; exact if_pos rfl) n1 ot1 f1
  have k := R2 tp_noX _ (R1 tp_noX _ Ra)
  have e1 : tp_up (tp_up τ 3 c 1) 4 c ((tp_up τ 3 c 1) 4 c + tp_bt (tp_nI o)) 4 c = τ 4 c + tp_bt (tp_nI o) := tp_up_eq
  have e2 : τ 4 c = 0 := by rw [R.cp hc, h45.1, h45.2]; exact tp_mk_z
  rw [tp_up_up, e1, e2, Int32.zero_add] at k
  refine ⟨tp_z4 σ2 6 c, tp_z4 (tp_up (tp_up τ 3 c 1) 4 c (tp_bt (tp_nI o) + tp_bt (tp_nI t))) 5 c, ?_, ?_, I2, k.z4 c, rfl, ?_⟩
  · rw [r1, Option.bind_some, r2, Option.bind_some, tp_C_clear hc]; rfl
  · rw [tp_bt_n ho, tp_bt_n ht]; exact tp_M_clear hc
  · show tp_cntF (fun i => decide (σ2 3 i ≠ 0)) 400 = tp_cntF (fun i => decide (σ 3 i ≠ 0)) 400 + 1
    have h := tp_sumF_upd (f := fun i => (decide (σ2 3 i ≠ 0)).toNat) (g := fun i => (decide (σ 3 i ≠ 0)).toNat) (c := c) (n := 400) hc (fun i hi hne => by
      show (decide (σ2 3 i ≠ 0)).toNat = (decide (σ 3 i ≠ 0)).toNat
      rw [q3, p3, show tp_up σ 3 c 1 3 i = σ 3 i from tp_up_nk hne])
    have h1 : σ2 3 c = 1 := by rw [q3, p3]; exact if_pos rfl
    have h2 : (decide (σ2 3 c ≠ 0)).toNat = 1 := by rw [h1]; rfl
    have h3' : (decide (σ 3 c ≠ 0)).toNat = 0 := by rw [h3]; rfl
    rw [h2, h3', Nat.add_zero] at h
    show tp_sumF (fun i => (decide (σ2 3 i ≠ 0)).toNat) 400 = tp_sumF (fun i => (decide (σ 3 i ≠ 0)).toNat) 400 + 1
    exact h
theorem tp_C_lun {σ : tp_St} : fC_leastUnusedNumber σ = some (tp_enc (tp_findF (fun c => decide (σ 3 c = 0)) 400 0)) := by
  have h := tp_find_loop0 (F := fun n x => fC_leastUnusedNumber_L2 σ n x) (N := 400) (p := fun c => decide (σ 3 c = 0)) (hit := fun j => some (tp_nI j)) (miss := some (-1)) (by
    show fC_leastUnusedNumber_L2 σ 1 (tp_nI 400) = _
    rw [fC_leastUnusedNumber_L2, if_pos (by decide)]) (fun n i hi => by
    show fC_leastUnusedNumber_L2 σ (n + 1) (tp_nI i) = _
    rw [fC_leastUnusedNumber_L2, if_neg (tp_g4 hi), if_neg (tp_b4 hi), tp_t4 hi]
    by_cases y : σ 3 i = 0
    · rw [if_pos y, decide_eq_true y]; rfl
    · rw [if_neg y, decide_eq_false y]; rfl)
  rw [fC_leastUnusedNumber]
  refine Eq.trans h ?_
  cases tp_findF (fun c => decide (σ 3 c = 0)) 400 0 <;> rfl
theorem tp_new_sim {σ τ : tp_St} (I : tp_Inv σ) (R : tp_Rel tp_noX σ τ) : ∃ r σ' τ', fC_newChunk σ = some (r, σ') ∧ fM_newChunk τ = some (r, τ') ∧ tp_Inv σ' ∧ tp_Rel tp_noX σ' τ' ∧ τ' 0 = τ 0 ∧ ((r = -1 ∧ σ' = σ) ∨ ((∃ c, c < 400 ∧ r = tp_nI c) ∧ tp_al σ' = tp_al σ + 1)) := by
  have hM : fM_newChunk τ = (tp_findF (fun c => decide (σ 3 c = 0)) 400 0).elim (some (-1, τ)) (fun i => fM_newChunk_L2 1 (tp_nI i) τ) := by
    refine tp_find_loop0 (F := fun n x => fM_newChunk_L2 n x τ) (N := 400) ?_ ?_
    · show fM_newChunk_L2 1 (tp_nI 400) τ = _
      rw [fM_newChunk_L2, if_pos (by decide), if_pos (by decide)]
    · intro n i hi
      show fM_newChunk_L2 (n + 1) (tp_nI i) τ = if decide (σ 3 i = 0) = true then fM_newChunk_L2 1 (tp_nI i) τ else fM_newChunk_L2 n (tp_nI i + 1) τ
      by_cases y : σ 3 i = 0
      · rw [decide_eq_true y, if_pos rfl, fM_newChunk_L2, fM_newChunk_L2, if_neg (tp_g4 hi), if_neg (tp_g4 hi), if_neg (tp_b4 hi), if_neg (tp_b4 hi), tp_t4 hi, R.th hi, if_pos y, if_pos y]
      · rw [decide_eq_false y, if_neg (by decide), fM_newChunk_L2, if_neg (tp_g4 hi), if_neg (tp_b4 hi), tp_t4 hi, R.th hi, if_neg y]
  rw [fC_newChunk, tp_C_lun, Option.bind_some, tp_C_emp, Option.bind_some, hM]
  cases hf : tp_findF (fun c => decide (σ 3 c = 0)) 400 0 with
  | none =>
    refine ⟨-1, σ, τ, ?_, rfl, I, R, rfl, .inl ⟨rfl, rfl⟩⟩
    show (if (-1 : Int32) = -1 then _ else _) = _
    rw [if_pos rfl]
  | some c =>
    obtain ⟨_, k1, k2, _⟩ := tp_findF_some hf
    have hc : c < 400 := by omega
    have h3 : σ 3 c = 0 := of_decide_eq_true k2
    have h400 : ¬ tp_nI c = 400 := fun z => absurd ((tp_nI_eq (j := 400) (by omega) (by omega)).mp z) (by omega)
    show ∃ r σ' τ', (if tp_nI c = -1 then _ else _) = _ ∧ fM_newChunk_L2 1 (tp_nI c) τ = _ ∧ _
    rw [show tp_enc (some c) = tp_nI c from rfl, if_neg (tp_nI_m (by omega)), fM_newChunk_L2, if_neg (tp_g4 hc)]
    simp only [if_neg (tp_b4 hc)]
    rw [tp_t4 hc, R.th hc, if_pos h3, if_neg h400, tp_M_emp1 I R (-1), Option.bind_some]
    cases he : tp_eM (tp_qB σ (-1)) (tp_fr σ) 12 with
    | none =>
      refine ⟨-1, σ, τ, ?_, ?_, I, R, rfl, .inl ⟨rfl, rfl⟩⟩
      · show (if (-1 : Int32) = -1 then _ else _) = _
        rw [if_pos rfl]
      · show (if 0 ≤ (-1 : Int32) then _ else (if (-1 : Int32) < 0 then _ else _)) = _
        rw [if_neg (by decide), if_pos (by decide)]
    | some o =>
      obtain ⟨ho, hqo, hfo⟩ := tp_eM_some he
      have fo := (tp_fr_pos I ho).mp hfo
      have p0 : 0 ≤ tp_nI o := Int32.not_lt.mp (tp_nI_nn (by omega))
      rw [show tp_enc (some o) = tp_nI o from rfl, if_neg (tp_nI_m (by omega)), if_pos p0, tp_M_emp1 I R (tp_nI o), Option.bind_some, tp_C_emp, Option.bind_some, if_neg (tp_nI_nn (by omega))]
      cases h2 : tp_eM (tp_qB σ (tp_nI o)) (tp_fr σ) 12 with
      | some t =>
        obtain ⟨ht, hqt, hft⟩ := tp_eM_some h2
        have p1 : 0 ≤ tp_nI t := Int32.not_lt.mp (tp_nI_nn (by omega))
        have hot : o ≠ t := fun z => by
          rw [tp_qB, Bool.and_eq_true, decide_eq_true_eq] at hqt
          exact hqt.1 (by rw [z])
        rw [show tp_enc (some t) = tp_nI t from rfl, if_neg (tp_nI_m (by omega)), if_neg (tp_nI_m (by omega)), if_pos p1, if_pos p1]
        obtain ⟨σ', τ', a1, a2, a3, a4, a5, a6⟩ := tp_create_sim I R hc h3 ho ht hot fo ((tp_fr_pos I ht).mp hft)
        exact ⟨tp_nI c, σ', τ', a1, a2, a3, a4, a5, .inr ⟨⟨c, hc, rfl⟩, a6⟩⟩
      | none =>
        rw [show tp_enc none = -1 from rfl, if_pos (show (-1 : Int32) = -1 from rfl), if_neg (show ¬ (0 : Int32) ≤ -1 by decide), tp_C_free ho, Option.bind_some, tp_M_freeOn I R ho, Option.bind_some]
        by_cases z : tp_fr σ o < 2
        · refine ⟨-1, σ, τ, ?_, ?_, I, R, rfl, .inl ⟨rfl, rfl⟩⟩
          · rw [if_pos z, if_pos rfl]
          · rw [if_pos z, if_neg (by decide)]
        · rw [if_neg z, if_neg z]
          have f2 : tp_cn σ o + 2 ≤ tp_pl σ o := by
            obtain ⟨i1, i2, i3⟩ := I.pl ho
            rw [tp_frN I ho] at z
            have w := mt (tp_nI_lt (i := tp_pl σ o - tp_cn σ o) (j := 2) (by omega) (by omega)).mpr z
            omega
          rcases tp_room_sim I R ho fo with ⟨_, b1, b2⟩ | ⟨c', a, σ1, τ1, hc', ha, _, oa, oo, hs, b1, b2, I1, R1, t1, _, ⟨s0, s2, s3, s6⟩, c1⟩
          · refine ⟨-1, σ, τ, ?_, ?_, I, R, rfl, .inl ⟨rfl, rfl⟩⟩
            · rw [b1, Option.bind_some, if_pos rfl]
            · rw [b2, Option.bind_some]; exact if_neg (show ¬ (0 : Int32) ≤ -1 by decide)
          · have hoa : o ≠ a := fun w => by rw [w, oa] at oo; cases oo
            have t0 : (true).toNat = 1 := rfl
            have t2 : (false).toNat = 0 := rfl
            have e1 := c1 o ho
            have e2 := c1 a ha
            rw [decide_eq_false hoa, decide_eq_true rfl] at e1
            rw [decide_eq_true rfl, decide_eq_false (fun w => hoa w.symm)] at e2
            have pp : ∀ e, tp_pl σ1 e = tp_pl σ e := fun e => by rw [tp_pl, tp_pl, s0]
            have i3 := (I.pl ha).2.2
            have p1 : 0 ≤ tp_nI a := Int32.not_lt.mp (tp_nI_nn (by omega))
            obtain ⟨σ', τ', a1, a2, a3, a4, a5, a6⟩ := tp_create_sim I1 R1 hc (by rw [s3]; exact h3) ho ha hoa (by rw [pp]; omega) (by rw [pp]; omega)
            refine ⟨tp_nI c, σ', τ', ?_, ?_, a3, a4, a5.trans t1, .inr ⟨⟨c, hc, rfl⟩, ?_⟩⟩
            · rw [b1, Option.bind_some]
              show (if tp_nI a = -1 then _ else _) = _
              rw [if_neg (tp_nI_m (by omega))]; exact a1
            · rw [b2, Option.bind_some]
              show (if 0 ≤ tp_nI a then _ else _) = _
              rw [if_pos p1]; exact a2
            · rw [a6]; unfold tp_al; rw [s3]
