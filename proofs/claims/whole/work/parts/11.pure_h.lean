def tp_Ok (o : Option (Nat × Int32 × tp_St)) (q : Option (Int32 × tp_St)) (mp : Nat → Nat) : Prop :=
  ∃ k v σ' v' τ', o = some (k, v, σ') ∧ q = some (v', τ') ∧ tp_Inv σ' ∧ tp_Rel tp_noX σ' τ' ∧ τ' 0 0 = tp_nI (mp k) ∧ (k = 0 → v = v') ∧ k < 5
def tp_Ok0 (o : Option (Nat × Int32 × tp_St)) (q : Option tp_St) (mp : Nat → Nat) : Prop :=
  ∃ k v σ' τ', o = some (k, v, σ') ∧ q = some τ' ∧ tp_Inv σ' ∧ tp_Rel tp_noX σ' τ' ∧ τ' 0 0 = tp_nI (mp k) ∧ k < 5
def tp_mp1 (k : Nat) : Nat := if k = 0 then 0 else 1
def tp_mpI (k : Nat) : Nat := k
def tp_mpL (k : Nat) : Nat := if k = 4 then 3 else k
def tp_mpA (k : Nat) : Nat := if k = 3 then 2 else k
theorem tp_Inv.gone {σ : tp_St} (I : tp_Inv σ) {d : Nat} (hd : d < 12) (h0 : tp_cn σ d = 0) : tp_Inv (tp_gone σ d) := by
  refine ⟨fun e he => ?_, I.2.1, fun e he => ?_, I.2.2.2⟩
  · show ∃ P, P ≤ 200 ∧ (if e = d then 0 else σ 0 e) = tp_nI P ∧ tp_cn σ e ≤ P
    by_cases z : e = d
    · exact ⟨0, by omega, by rw [if_pos z]; rfl, by rw [z]; omega⟩
    · rw [if_neg z]; exact I.1 e he
  · show (if e = d then 0 else σ 2 e) = 0 ∨ ((if e = d then 0 else σ 2 e) = 1 ∧ 0 < tp_cn σ e)
    by_cases z : e = d
    · exact .inl (if_pos z)
    · rw [if_neg z]; exact I.2.2.1 e he
theorem tp_up_self {σ : tp_St} {f k : Nat} : tp_up σ f k (σ f k) = σ := by
  funext g j
  show (if g = f then upd (σ f) k (σ f k) else σ g) j = σ g j
  by_cases h : g = f
  · rw [if_pos h, h]
    show (if j = k then σ f k else σ f j) = σ f j
    by_cases e : j = k
    · rw [if_pos e, e]
    · rw [if_neg e]
  · rw [if_neg h]
theorem tp_disk_sim {σ τ : tp_St} (I : tp_Inv σ) (R : tp_Rel tp_noX σ τ) (x y : Int32) : tp_Ok0 (fC_disk σ x y) (fM_disk τ x y) tp_mpI := by
  rw [fC_disk, fM_disk]
  by_cases h1 : x < 0
  · rw [if_pos h1, if_pos h1]; exact ⟨1, 0, σ, tp_up τ 0 0 1, rfl, rfl, I, R.thrown 1, rfl, by omega⟩
  · rw [if_neg h1, if_neg h1]
    by_cases h2 : x < 12
    · rw [if_pos h2, if_pos h2]
      rcases tp_int_cases 12 (by omega) x with ⟨d, hd, e⟩ | z | z
      · rw [e, tp_C_isThere hd, Option.bind_some, tp_if_bI, if_neg (tp_bd hd), if_neg (tp_bd hd), tp_td hd, R.pl hd, tp_th]
        by_cases h3 : 0 < σ 0 d
        · rw [decide_eq_true h3, if_pos rfl, if_neg (Int32.not_le.mpr h3)]; exact ⟨2, 0, σ, tp_up τ 0 0 2, rfl, rfl, I, R.thrown 2, rfl, by omega⟩
        · rw [decide_eq_false h3, if_neg (by decide), if_pos (Int32.not_lt.mp h3)]
          by_cases h4 : y < 1
          · rw [if_pos h4, if_pos h4]; exact ⟨3, 0, σ, tp_up τ 0 0 3, rfl, rfl, I, R.thrown 3, rfl, by omega⟩
          · rw [if_neg h4, if_neg h4]
            by_cases h5 : y ≤ 200
            · rw [if_pos h5, if_pos h5, tp_vn0]
              have hP : ∃ P, P ≤ 200 ∧ y = tp_nI P := by
                rcases tp_int_cases 201 (by omega) y with ⟨P, hP, e⟩ | z | z
                · exact ⟨P, by omega, e⟩
                · exact absurd (Int32.lt_trans z (by decide : (0 : Int32) < 1)) h4
                · exact absurd (Int32.le_trans z h5) (by decide)
              obtain ⟨P, hP, eP⟩ := hP
              have p0 : σ 0 d = tp_nI 0 := by
                obtain ⟨i1, i2, i3⟩ := I.pl hd
                rw [tp_pl_pos I hd] at h3
                rw [i1, show tp_pl σ d = 0 from by omega]
              have c0 : tp_cn σ d = 0 := by
                obtain ⟨i1, i2, i3⟩ := I.pl hd
                rw [tp_pl_pos I hd] at h3
                omega
              have l0 : σ 2 d = 0 := by
                by_cases w : σ 2 d = 0
                · exact w
                · exact absurd (I.lv hd w).1 h3
              refine ⟨0, 0, tp_up σ 0 d y, tp_up (tp_up (tp_up τ 0 0 0) 1 d y) 2 d 0, rfl, rfl, ⟨fun k hk => ?_, I.2.1, I.2.2.1, I.2.2.2⟩, ⟨fun k hk => ?_, R.2⟩, rfl, by omega⟩
              · show ∃ P, P ≤ 200 ∧ (if k = d then y else σ 0 k) = tp_nI P ∧ tp_cn σ k ≤ P
                by_cases w : k = d
                · exact ⟨P, hP, by rw [if_pos w]; exact eP, by rw [w]; omega⟩
                · rw [if_neg w]; exact I.1 k hk
              · show ((if k = d then y else τ 1 k) = (if k = d then y else σ 0 k) ∨ _) ∧ (0 < (if k = d then y else σ 0 k) → (if k = d then 0 else τ 2 k) = σ 2 k)
                by_cases w : k = d
                · rw [if_pos w, if_pos w, if_pos w, w]; exact ⟨.inl rfl, fun _ => l0.symm⟩
                · rw [if_neg w, if_neg w, if_neg w]; exact ⟨.inl (R.pl hk), (R.1 k hk).2⟩
            · rw [if_neg h5, if_neg h5]; exact ⟨3, 0, σ, tp_up τ 0 0 3, rfl, rfl, I, R.thrown 3, rfl, by omega⟩
      · exact absurd z h1
      · exact absurd (Int32.lt_of_lt_of_le h2 z) Int32.lt_irrefl
    · rw [if_neg h2, if_neg h2]; exact ⟨1, 0, σ, tp_up τ 0 0 1, rfl, rfl, I, R.thrown 1, rfl, by omega⟩
theorem tp_chunk_sim {σ τ : tp_St} (I : tp_Inv σ) (R : tp_Rel tp_noX σ τ) : tp_Ok (fC_chunk σ) (fM_chunk τ) tp_mp1 := by
  rw [fC_chunk, fM_chunk]
  obtain ⟨r, σ', τ', a1, a2, I1, R1, t1, hr⟩ := tp_new_sim I R
  rw [a1, a2, Option.bind_some, Option.bind_some]
  rcases hr with ⟨hr, _⟩ | ⟨⟨c, hc, hr⟩, _⟩
  · refine ⟨4, 0, σ', 0, tp_up τ' 0 0 1, ?_, ?_, I1, R1.thrown 1, rfl, fun z => by omega, by omega⟩
    · show (if r = -1 then _ else _) = _
      rw [if_pos hr]
    · show (if 0 ≤ r then _ else (if 0 ≤ r then _ else _)) = _
      rw [hr, if_neg (by decide), if_neg (by decide)]
  · have p : 0 ≤ tp_nI c := Int32.not_lt.mp (tp_nI_nn (by omega))
    refine ⟨0, r, σ', r, tp_up τ' 0 0 0, ?_, ?_, I1, R1.thrown 0, rfl, fun _ => rfl, by omega⟩
    · show (if r = -1 then _ else _) = _
      rw [if_neg (by rw [hr]; exact tp_nI_m (by omega))]
    · show (if 0 ≤ r then (if 0 ≤ r then _ else _) else _) = _
      rw [hr, if_pos p, if_pos p]
theorem tp_al_le (σ : tp_St) : tp_al σ ≤ 400 := tp_cntF_le _ 400
theorem tp_chunks_loop {x : Int32} {M : Nat} (hM : M ≤ 400) (hx : ∀ i, i < 400 → (x ≤ tp_nI i ↔ M ≤ i)) : ∀ k i σ τ, i + k = 400 → tp_Inv σ → tp_Rel tp_noX σ τ → i ≤ tp_al σ → i ≤ M →
    ∃ r σ' τ', fC_chunks_L22 (tp_nI M) (k + 1) (tp_nI i) σ = some (0, r, σ') ∧ fM_chunks_L15 x (k + 2) (tp_nI i) τ = some (r, τ') ∧ tp_Inv σ' ∧ tp_Rel tp_noX σ' τ' ∧ τ' 0 = τ 0 := by
  intro k
  induction k with
  | zero =>
    intro i σ τ hk I R ha hi
    have e1 : i = 400 := by omega
    have e2 : M = 400 := by omega
    rw [e1, e2]
    have c1 : fC_chunks_L22 (tp_nI 400) (0 + 1) (tp_nI 400) σ = some (0, tp_nI 400, σ) := by rw [fC_chunks_L22, if_pos (Int32.le_refl _)]
    by_cases z : x ≤ tp_nI 400
    · exact ⟨tp_nI 400, σ, τ, c1, by rw [fM_chunks_L15, if_pos z], I, R, rfl⟩
    · obtain ⟨r, σ', τ', a1, a2, I1, R1, t1, hr⟩ := tp_new_sim I R
      rcases hr with ⟨hr, hs⟩ | ⟨_, hr⟩
      · rw [hs] at R1
        refine ⟨tp_nI 400, σ, τ', c1, ?_, I, R1, t1⟩
        rw [fM_chunks_L15, if_neg z, a2, Option.bind_some]
        show (if r < 0 then _ else _) = _
        rw [if_pos (by rw [hr]; decide)]
      · have := tp_al_le σ'; omega
  | succ k ih =>
    intro i σ τ hk I R ha hi
    by_cases z : M ≤ i
    · refine ⟨tp_nI i, σ, τ, ?_, ?_, I, R, rfl⟩
      · rw [fC_chunks_L22, if_pos ((tp_nI_le (by omega) (by omega)).mpr z)]
      · rw [fM_chunks_L15, if_pos ((hx i (by omega)).mpr z)]
    · obtain ⟨r, σ', τ', a1, a2, I1, R1, t1, hr⟩ := tp_new_sim I R
      rw [fC_chunks_L22, if_neg (fun w => z ((tp_nI_le (by omega) (by omega)).mp w)), a1, Option.bind_some, fM_chunks_L15, if_neg (fun w => z ((hx i (by omega)).mp w)), a2, Option.bind_some]
      rcases hr with ⟨hr, _⟩ | ⟨⟨c, hc, hr⟩, hal⟩
      · refine ⟨tp_nI i, σ', τ', ?_, ?_, I1, R1, t1⟩
        · show (if r = -1 then _ else _) = _
          rw [if_pos hr]
        · show (if r < 0 then _ else _) = _
          rw [if_pos (by rw [hr]; decide)]
      · obtain ⟨r2, σ2, τ2, b1, b2, I2, R2, t2⟩ := ih (i + 1) σ' τ' (by omega) I1 R1 (by omega) (by omega)
        refine ⟨r2, σ2, τ2, ?_, ?_, I2, R2, t2.trans t1⟩
        · show (if r = -1 then _ else _) = _
          rw [if_neg (by rw [hr]; exact tp_nI_m (by omega)), tp_nI_s]; exact b1
        · show (if r < 0 then _ else _) = _
          rw [if_neg (by rw [hr]; exact tp_nI_nn (by omega)), tp_nI_s]; exact b2
theorem tp_big {x : Int32} (h : 0 ≤ x) : ∃ N, N < 2 ^ 31 ∧ x = Int32.ofNat N := ⟨x.toNatClampNeg, x.toNatClampNeg_lt, (Int32.ofNat_toNatClampNeg x h).symm⟩
theorem tp_chunks_sim {σ τ : tp_St} (I : tp_Inv σ) (R : tp_Rel tp_noX σ τ) (x : Int32) : tp_Ok (fC_chunks σ x) (fM_chunks τ x) tp_mp1 := by
  rw [fC_chunks, fM_chunks]
  by_cases h : 0 ≤ x
  · rw [if_pos h, if_pos h]
    obtain ⟨N, hN, e⟩ := tp_big h
    have k1 : (if 400 < x then 400 else x) = tp_nI (min N 400) := by
      rw [e]
      by_cases z : 400 < N
      · rw [if_pos (show (400 : Int32) < Int32.ofNat N from (Int32.ofNat_lt_iff_lt (a := 400) (by omega) hN).mpr z), Nat.min_eq_right (by omega)]; rfl
      · rw [if_neg (show ¬ (400 : Int32) < Int32.ofNat N from fun w => z ((Int32.ofNat_lt_iff_lt (a := 400) (by omega) hN).mp w)), Nat.min_eq_left (by omega)]
    obtain ⟨r, σ', τ', a1, a2, I1, R1, t1⟩ := tp_chunks_loop (x := x) (M := min N 400) (by omega) (fun i hi => by
      rw [e, show (Int32.ofNat N ≤ tp_nI i ↔ N ≤ i) from Int32.ofNat_le_iff_le hN (by omega)]; omega) 400 0 σ (tp_up τ 0 0 0) rfl I (R.thrown 0) (by omega) (by omega)
    rw [k1]
    exact ⟨0, r, σ', r, τ', a1, a2, I1, R1, by rw [t1]; rfl, fun _ => rfl, by omega⟩
  · rw [if_neg h, if_neg h]
    have h0 : x ≤ 0 := Int32.le_of_lt (Int32.not_le.mp h)
    refine ⟨3, 0, σ, 0, tp_up τ 0 0 1, rfl, ?_, I, R.thrown 1, rfl, fun z => by omega, by omega⟩
    show fM_chunks_L15 x (401 + 1) 0 (tp_up τ 0 0 1) = _
    rw [fM_chunks_L15, if_pos h0]
theorem tp_steps_loop {x : Int32} {M : Nat} (hM : M ≤ 1000000) (hx : ∀ i, i < 1000000 → (x ≤ tp_nI i ↔ M ≤ i)) : ∀ b i n σ τ, i + b + 1 < 1000000 → b + 2 ≤ n → tp_Inv σ → tp_Rel tp_noX σ τ → (2 * tp_mu σ + 1 ≤ b ∨ (2 * tp_mu σ ≤ b ∧ (tp_g1 σ ∨ tp_g3 σ))) →
    ∃ r σ' τ', fC_steps_L21 (tp_nI M) n (tp_nI i) σ = some (0, r, σ') ∧ fM_steps_L25 x n (tp_nI i) (if x ≤ tp_nI i then 0 else 1) τ = some (r, τ') ∧ tp_Inv σ' ∧ tp_Rel tp_noX σ' τ' ∧ τ' 0 = τ 0 := by
  intro b
  induction b with
  | zero =>
    intro i n σ τ hi hn I R hb
    obtain ⟨n, rfl⟩ : ∃ m, n = m + 2 := ⟨n - 2, by omega⟩
    have hg : tp_mu σ = 0 ∧ (tp_g1 σ ∨ tp_g3 σ) := by
      rcases hb with h | h
      · omega
      · exact ⟨by omega, h.2⟩
    by_cases z : M ≤ i
    · refine ⟨tp_nI i, σ, τ, ?_, ?_, I, R, rfl⟩
      · rw [fC_steps_L21, if_pos ((tp_nI_le (by omega) (by omega)).mpr z)]
      · rw [if_pos ((hx i (by omega)).mpr z), fM_steps_L25, if_pos rfl]
    · obtain ⟨r, σ', τ', a1, a2, I1, R1, t1, hr, hgm⟩ := tp_step_sim I R
      have := hgm hg.2
      omega
  | succ b ih =>
    intro i n σ τ hi hn I R hb
    obtain ⟨n, rfl⟩ : ∃ m, n = m + 2 := ⟨n - 2, by omega⟩
    by_cases z : M ≤ i
    · refine ⟨tp_nI i, σ, τ, ?_, ?_, I, R, rfl⟩
      · rw [fC_steps_L21, if_pos ((tp_nI_le (by omega) (by omega)).mpr z)]
      · rw [if_pos ((hx i (by omega)).mpr z), fM_steps_L25, if_pos rfl]
    · obtain ⟨r, σ', τ', a1, a2, I1, R1, t1, hr, hgm⟩ := tp_step_sim I R
      rw [fC_steps_L21, if_neg (fun w => z ((tp_nI_le (by omega) (by omega)).mp w)), a1, Option.bind_some, if_neg (fun w => z ((hx i (by omega)).mp w)), fM_steps_L25, if_neg (show ¬ (1 : Int32) = 0 by decide), a2, Option.bind_some]
      rcases hr with hr | ⟨hr, hmu⟩
      · refine ⟨tp_nI i, σ', τ', ?_, ?_, I1, R1, t1⟩
        · show (if r = 0 then _ else _) = _
          rw [if_pos hr]
        · show (if r ≤ 0 then _ else _) = _
          rw [if_pos (by rw [hr]; decide)]
          show fM_steps_L25 x (n + 1) (tp_nI i) 0 τ' = _
          rw [fM_steps_L25, if_pos rfl]
      · have hb' : 2 * tp_mu σ' + 1 ≤ b ∨ (2 * tp_mu σ' ≤ b ∧ (tp_g1 σ' ∨ tp_g3 σ')) := by
          rcases hmu with h | ⟨h, hg⟩
          · left
            rcases hb with h1 | h1 <;> omega
          · right
            refine ⟨?_, hg⟩
            rcases hb with h1 | ⟨h1, h2⟩
            · omega
            · have := hgm h2; omega
        obtain ⟨r2, σ2, τ2, b1, b2, I2, R2, t2⟩ := ih (i + 1) (n + 1) σ' τ' (by omega) (by omega) I1 R1 hb'
        refine ⟨r2, σ2, τ2, ?_, ?_, I2, R2, t2.trans t1⟩
        · show (if r = 0 then _ else _) = _
          rw [if_neg (fun w => by rw [w] at hr; exact absurd hr (by decide)), tp_nI_s]; exact b1
        · show (if r ≤ 0 then _ else (if x ≤ tp_nI i + 1 then _ else _)) = _
          rw [if_neg (Int32.not_le.mpr hr), tp_nI_s]
          by_cases w : x ≤ tp_nI (i + 1)
          · rw [if_pos w]; rw [if_pos w] at b2; exact b2
          · rw [if_neg w]; rw [if_neg w] at b2; exact b2
theorem tp_steps_sim {σ τ : tp_St} (I : tp_Inv σ) (R : tp_Rel tp_noX σ τ) (x : Int32) : tp_Ok (fC_steps σ x) (fM_steps τ x) tp_mp1 := by
  rw [fC_steps, fM_steps]
  by_cases h : 0 ≤ x
  · rw [if_pos h, if_pos h]
    obtain ⟨N, hN, e⟩ := tp_big h
    have k1 : (if 1000000 < x then 1000000 else x) = tp_nI (min N 1000000) := by
      rw [e]
      by_cases z : 1000000 < N
      · rw [if_pos (show (1000000 : Int32) < Int32.ofNat N from (Int32.ofNat_lt_iff_lt (a := 1000000) (by omega) hN).mpr z), Nat.min_eq_right (by omega)]; rfl
      · rw [if_neg (show ¬ (1000000 : Int32) < Int32.ofNat N from fun w => z ((Int32.ofNat_lt_iff_lt (a := 1000000) (by omega) hN).mp w)), Nat.min_eq_left (by omega)]
    have hm := tp_mu_le σ
    obtain ⟨r, σ', τ', a1, a2, I1, R1, t1⟩ := tp_steps_loop (x := x) (M := min N 1000000) (by omega) (fun i hi => by
      rw [e, show (Int32.ofNat N ≤ tp_nI i ↔ N ≤ i) from Int32.ofNat_le_iff_le hN (by omega)]; omega) 10401 0 1000001 σ (tp_up τ 0 0 0) (by omega) (by omega) I (R.thrown 0) (.inl (by omega))
    rw [k1]
    refine ⟨0, r, σ', r, τ', a1, ?_, I1, R1, by rw [t1]; rfl, fun _ => rfl, by omega⟩
    rw [← a2]
    by_cases w : x ≤ 0
    · rw [if_pos w]
      show _ = fM_steps_L25 x 1000001 (tp_nI 0) (if x ≤ (0 : Int32) then 0 else 1) (tp_up τ 0 0 0)
      rw [if_pos w]; rfl
    · rw [if_neg w]
      show _ = fM_steps_L25 x 1000001 (tp_nI 0) (if x ≤ (0 : Int32) then 0 else 1) (tp_up τ 0 0 0)
      rw [if_neg w]; rfl
  · rw [if_neg h, if_neg h]
    have h0 : x ≤ 0 := Int32.le_of_lt (Int32.not_le.mp h)
    refine ⟨3, 0, σ, 0, tp_up τ 0 0 1, rfl, ?_, I, R.thrown 1, rfl, fun z => by omega, by omega⟩
    rw [if_pos h0]
    show fM_steps_L25 x (1000000 + 1) 0 0 (tp_up τ 0 0 1) = _
    rw [fM_steps_L25, if_pos rfl]
theorem tp_mk_0 {l g : Int32} (h : tp_VV l g) : tp_mK l g = 0 ↔ l = -1 := by
  rcases h with ⟨h1, h2⟩ | ⟨a, ha, h1, h2⟩ | ⟨a, b, hab, hb, h1, h2⟩
  · rw [h1, h2]; exact ⟨fun _ => rfl, fun _ => tp_mk_z⟩
  · rw [h1, h2]; exact ⟨fun z => absurd z (tp_mk_n1 a ha), fun z => absurd z (tp_nI_m (by omega))⟩
  · rw [h1, h2]; exact ⟨fun z => absurd z (tp_mk_n2 a (by omega) b hb hab), fun z => absurd z (tp_nI_m (by omega))⟩
theorem tp_nc_0 {σ : tp_St} {c : Nat} : tp_nc σ c = 0 ↔ σ 4 c = -1 := by
  unfold tp_nc
  by_cases y : σ 4 c = -1
  · rw [if_pos y]; exact ⟨fun _ => y, fun _ => rfl⟩
  · rw [if_neg y]
    by_cases z : σ 5 c = -1
    · rw [if_pos z]; exact ⟨fun w => by omega, fun w => absurd w y⟩
    · rw [if_neg z]; exact ⟨fun w => by omega, fun w => absurd w y⟩
theorem tp_lt43 {y : Int32} (h : ¬ y < 0) (h4 : y < 4) : ∃ i, i < 4 ∧ y = tp_nI i := by
  rcases tp_int_cases 4 (by omega) y with z | z | z
  · exact z
  · exact absurd z h
  · exact absurd (Int32.lt_of_lt_of_le h4 z) Int32.lt_irrefl
theorem tp_le3_iff {y : Int32} (h : ¬ y < 0) : y ≤ 3 ↔ y < 4 := by
  constructor
  · intro z; exact Int32.lt_of_le_of_lt z (by decide)
  · intro z
    obtain ⟨i, hi, e⟩ := tp_lt43 h z
    rw [e]; exact (tp_nI_le (j := 3) (by omega) (by omega)).mpr (by omega)
theorem tp_write_sim {σ τ : tp_St} (I : tp_Inv σ) (R : tp_Rel tp_noX σ τ) (x y w : Int32) : tp_Ok0 (fC_write σ x y w) (fM_write τ x y w) tp_mpI := by
  have hno : ∀ (b1 : fC_isChunk σ x = some 0) (b2 : fM_isChunk τ x = some 0), tp_Ok0 (fC_write σ x y w) (fM_write τ x y w) tp_mpI := fun b1 b2 =>
    ⟨1, 0, σ, tp_up τ 0 0 1, by rw [fC_write, b1]; rfl, by rw [fM_write, b2]; rfl, I, R.thrown 1, rfl, by omega⟩
  rcases tp_int_cases 400 (by omega) x with ⟨c, hc, e⟩ | z | z
  · by_cases h3 : σ 3 c = 0
    · exact hno (by rw [e, tp_C_isChunk hc, h3]; rfl) (by rw [e, tp_M_isChunk R hc, h3]; rfl)
    · rw [fC_write, fM_write, e, tp_C_isChunk hc, tp_M_isChunk R hc, Option.bind_some, Option.bind_some, decide_eq_true h3, tp_if_bI, tp_if_bI, if_pos rfl, if_pos rfl]
      by_cases h1 : y < 0
      · rw [if_pos h1, if_pos h1]; exact ⟨1, 0, σ, tp_up τ 0 0 1, rfl, rfl, I, R.thrown 1, rfl, by omega⟩
      · rw [if_neg h1, if_neg h1]
        by_cases h4 : y < 4
        · obtain ⟨i, hi, ei⟩ := tp_lt43 h1 h4
          rw [if_pos h4, if_pos ((tp_le3_iff h1).mpr h4), tp_C_copies hc, Option.bind_some, if_neg (tp_b4 hc), tp_t4 hc, R.cp hc, ei, tp_ix_C, tp_ix_M, if_neg (tp_bw (by omega)), if_neg (tp_bw (by omega)), tp_nI_t (by omega)]
          by_cases h5 : σ 4 c = -1
          · rw [tp_nc_0.mpr h5, if_pos (show tp_nI 0 = 0 from rfl), if_pos ((tp_mk_0 (I.vv hc)).mpr h5)]; exact ⟨2, 0, σ, tp_up τ 0 0 2, rfl, rfl, I, R.thrown 2, rfl, by omega⟩
          · rw [if_neg (fun v => h5 (tp_nc_0.mp ((tp_nI_0 (by have := tp_nc_lt σ c; omega)).mp v))), if_neg (fun v => h5 ((tp_mk_0 (I.vv hc)).mp v))]
            refine ⟨0, 0, tp_up σ 6 (4 * c + i) w, tp_up (tp_up τ 0 0 0) 5 (4 * c + i) w, rfl, rfl, I, ⟨R.1, R.2.1, fun k hk => ?_, R.2.2.2⟩, rfl, by omega⟩
            show (if k = 4 * c + i then w else τ 5 k) = if k = 4 * c + i then w else σ 6 k
            rw [R.2.2.1 k hk]
        · rw [if_neg h4, if_neg (fun v => h4 ((tp_le3_iff h1).mp v))]; exact ⟨1, 0, σ, tp_up τ 0 0 1, rfl, rfl, I, R.thrown 1, rfl, by omega⟩
  · exact hno (tp_C_isChunk_o (.inl z)) (tp_M_isChunk_o (.inl z))
  · exact hno (tp_C_isChunk_o (.inr z)) (tp_M_isChunk_o (.inr z))
theorem tp_read_sim {σ τ : tp_St} (I : tp_Inv σ) (R : tp_Rel tp_noX σ τ) (x y : Int32) : tp_Ok (fC_read σ x y) (fM_read τ x y) tp_mpI := by
  have hno : ∀ (b1 : fC_isChunk σ x = some 0) (b2 : fM_isChunk τ x = some 0), tp_Ok (fC_read σ x y) (fM_read τ x y) tp_mpI := fun b1 b2 =>
    ⟨1, 0, σ, 0, tp_up τ 0 0 1, by rw [fC_read, b1]; rfl, by rw [fM_read, b2]; rfl, I, R.thrown 1, rfl, fun z => by omega, by omega⟩
  rcases tp_int_cases 400 (by omega) x with ⟨c, hc, e⟩ | z | z
  · by_cases h3 : σ 3 c = 0
    · exact hno (by rw [e, tp_C_isChunk hc, h3]; rfl) (by rw [e, tp_M_isChunk R hc, h3]; rfl)
    · rw [fC_read, fM_read, e, tp_C_isChunk hc, tp_M_isChunk R hc, Option.bind_some, Option.bind_some, decide_eq_true h3, tp_if_bI, tp_if_bI, if_pos rfl, if_pos rfl]
      by_cases h1 : y < 0
      · rw [if_pos h1, if_pos h1]; exact ⟨1, 0, σ, 0, tp_up τ 0 0 1, rfl, rfl, I, R.thrown 1, rfl, fun z => by omega, by omega⟩
      · rw [if_neg h1, if_neg h1]
        by_cases h4 : y < 4
        · obtain ⟨i, hi, ei⟩ := tp_lt43 h1 h4
          rw [if_pos h4, if_pos ((tp_le3_iff h1).mpr h4), tp_C_copies hc, Option.bind_some, if_neg (tp_b4 hc), tp_t4 hc, R.cp hc, ei, tp_ix_C, tp_ix_M, if_neg (tp_bw (by omega)), if_neg (tp_bw (by omega)), tp_nI_t (by omega)]
          by_cases h5 : σ 4 c = -1
          · rw [tp_nc_0.mpr h5, if_pos (show tp_nI 0 = 0 from rfl), if_pos ((tp_mk_0 (I.vv hc)).mpr h5)]; exact ⟨2, 0, σ, 0, tp_up τ 0 0 2, rfl, rfl, I, R.thrown 2, rfl, fun z => by omega, by omega⟩
          · rw [if_neg (fun v => h5 (tp_nc_0.mp ((tp_nI_0 (by have := tp_nc_lt σ c; omega)).mp v))), if_neg (fun v => h5 ((tp_mk_0 (I.vv hc)).mp v))]
            exact ⟨0, σ 6 (4 * c + i), σ, τ 5 (4 * c + i), tp_up τ 0 0 0, rfl, rfl, I, R.thrown 0, rfl, fun _ => (R.2.2.1 (4 * c + i) (by omega)).symm, by omega⟩
        · rw [if_neg h4, if_neg (fun v => h4 ((tp_le3_iff h1).mp v))]; exact ⟨1, 0, σ, 0, tp_up τ 0 0 1, rfl, rfl, I, R.thrown 1, rfl, fun z => by omega, by omega⟩
  · exact hno (tp_C_isChunk_o (.inl z)) (tp_M_isChunk_o (.inl z))
  · exact hno (tp_C_isChunk_o (.inr z)) (tp_M_isChunk_o (.inr z))
theorem tp_fail_loop {d : Nat} (hd : d < 12) (w : Int32) : ∀ k i σ τ, i + k = 400 → tp_Inv σ → tp_Rel (fun x => x = d) σ τ → (∀ c, c < i → tp_oN σ c d = false) →
    ∃ σ' τ', fC_fail_L25 (tp_nI d) w (k + 1) (tp_nI i) σ = some (0, w, σ') ∧ fM_fail_L34 (tp_nI d) w (k + 1) (tp_nI i) τ = some (w, τ') ∧ tp_Inv σ' ∧ tp_Rel tp_noX σ' τ' ∧ τ' 0 = τ 0 := by
  intro k
  induction k with
  | zero =>
    intro i σ τ hk I R hz
    have e : i = 400 := by omega
    have h0 : tp_cn σ d = 0 := tp_sumF_all0 (fun c hc => by show (tp_oN σ c d).toNat = 0; rw [hz c (by omega)]; rfl)
    refine ⟨tp_gone σ d, tp_up τ 1 d 0, ?_, ?_, I.gone hd h0, ?_, rfl⟩
    · rw [e, fC_fail_L25, if_pos (by decide), tp_C_takeAway hd]; rfl
    · rw [e, fM_fail_L34, if_pos (by decide), if_neg (tp_bd hd), tp_td hd]
    · refine ⟨fun x hx => ?_, R.2⟩
      show ((if x = d then 0 else τ 1 x) = (if x = d then 0 else σ 0 x) ∨ _) ∧ (0 < (if x = d then 0 else σ 0 x) → τ 2 x = (if x = d then 0 else σ 2 x))
      by_cases z : x = d
      · rw [if_pos z, if_pos z, if_pos z]; exact ⟨.inl rfl, fun v => absurd v (by decide)⟩
      · rw [if_neg z, if_neg z, if_neg z]
        exact ⟨.inl ((R.1 x hx).1.elim id (fun v => absurd v.1 z)), (R.1 x hx).2⟩
  | succ k ih =>
    intro i σ τ hk I R hz
    have hi : i < 400 := by omega
    rw [fC_fail_L25, if_neg (tp_g4 hi), tp_C_isOn' hi d, Option.bind_some, tp_if_bI, fM_fail_L34, if_neg (tp_g4 hi), tp_M_isOn I R hi hd, Option.bind_some, tp_if_bI, if_neg (tp_b4 hi), if_neg (tp_b4 hi), tp_t4 hi, tp_nI_s]
    cases ho : tp_oN σ i d with
    | false =>
      rw [if_neg (by decide), if_neg (by decide), tp_up_self]
      exact ih (i + 1) σ τ (by omega) I R (fun c hc => by
        by_cases z : c = i
        · rw [z]; exact ho
        · exact hz c (by omega))
    | true =>
      obtain ⟨σ1, r1, I1, o1, _, _, _, _, R1⟩ := tp_drop_spec I hi hd ho
      have k1 := R1 _ τ R (fun _ => rfl)
      rw [if_pos rfl, if_pos rfl, r1, Option.bind_some, tp_bt_n hd]
      obtain ⟨σ', τ', a1, a2, a3, a4, a5⟩ := ih (i + 1) σ1 _ (by omega) I1 k1 (fun c hc => by
        rw [o1 c d hd]
        by_cases z : c = i
        · rw [z, decide_eq_true rfl, decide_eq_true rfl]; exact Bool.and_false _
        · rw [hz c (by omega)]; rfl)
      exact ⟨σ', τ', a1, a2, a3, a4, a5⟩
theorem tp_fail_sim {σ τ : tp_St} (I : tp_Inv σ) (R : tp_Rel tp_noX σ τ) (x : Int32) : tp_Ok (fC_fail σ x) (fM_fail τ x) tp_mp1 := by
  have hno : ∀ (b1 : fC_isThere σ x = some 0) (b2 : fM_isDisk τ x = some 0), tp_Ok (fC_fail σ x) (fM_fail τ x) tp_mp1 := fun b1 b2 =>
    ⟨1, 0, σ, 0, tp_up τ 0 0 1, by rw [fC_fail, b1]; rfl, by rw [fM_fail, b2]; rfl, I, R.thrown 1, rfl, fun z => by omega, by omega⟩
  rcases tp_int_cases 12 (by omega) x with ⟨d, hd, e⟩ | z | z
  · cases ht : tp_th σ d with
    | false => exact hno (by rw [e, tp_C_isThere hd, ht]; rfl) (by rw [e, tp_M_isDisk R hd, ht]; rfl)
    | true =>
      have R0 := R.thrown 0
      rw [fC_fail, fM_fail, e, tp_C_isThere hd, tp_M_isDisk R hd, ht, Option.bind_some, Option.bind_some, tp_if_bI, tp_if_bI, if_pos rfl, if_pos rfl, if_neg (tp_bd hd), tp_td hd, tp_M_used I R0 hd, Option.bind_some, I.2.1 d hd]
      obtain ⟨σ', τ', a1, a2, a3, a4, a5⟩ := tp_fail_loop hd (tp_nI (tp_cn σ d)) 400 0 σ (tp_up τ 0 0 0) rfl I (R0.mono (fun _ _ z => z.elim)) (fun c hc => by omega)
      exact ⟨0, _, σ', _, τ', a1, a2, a3, a4, by rw [a5]; rfl, fun _ => rfl, by omega⟩
  · exact hno (tp_C_isThere_o (.inl z)) (tp_M_isDisk_o (.inl z))
  · exact hno (tp_C_isThere_o (.inr z)) (tp_M_isDisk_o (.inr z))
theorem tp_leave_sim {σ τ : tp_St} (I : tp_Inv σ) (R : tp_Rel tp_noX σ τ) (x : Int32) : tp_Ok (fC_leave σ x) (fM_leave τ x) tp_mpL := by
  have hno : ∀ (b1 : fC_isThere σ x = some 0) (b2 : fM_isDisk τ x = some 0), tp_Ok (fC_leave σ x) (fM_leave τ x) tp_mpL := fun b1 b2 =>
    ⟨1, 0, σ, 0, tp_up τ 0 0 1, by rw [fC_leave, b1]; rfl, by rw [fM_leave, b2]; rfl, I, R.thrown 1, rfl, fun z => by omega, by omega⟩
  rcases tp_int_cases 12 (by omega) x with ⟨d, hd, e⟩ | z | z
  · cases ht : tp_th σ d with
    | false => exact hno (by rw [e, tp_C_isThere hd, ht]; rfl) (by rw [e, tp_M_isDisk R hd, ht]; rfl)
    | true =>
      have h0 : 0 < σ 0 d := of_decide_eq_true ht
      have no2 : tp_Ok (some (2, 0, σ)) (some (0, tp_up τ 0 0 2)) tp_mpL := ⟨2, 0, σ, 0, tp_up τ 0 0 2, rfl, rfl, I, R.thrown 2, rfl, fun z => by omega, by omega⟩
      rw [fC_leave, fM_leave, e, tp_C_isThere hd, tp_M_isDisk R hd, ht, Option.bind_some, Option.bind_some, tp_if_bI, tp_if_bI, if_pos rfl, if_pos rfl, if_neg (tp_bd hd), if_neg (tp_bd hd), tp_td hd, (R.1 d hd).2 h0]
      by_cases hl : σ 2 d = 0
      · have e0 := tp_M_cw I R (k := 0) (by omega)
        have e1 := tp_M_cw I R (k := 1) (by omega)
        have e2 := tp_C_cw (σ := σ) (k := 2) (by omega)
        have q0 : fM_countWith τ 0 = some (tp_nI (tp_cw σ 0)) := e0
        have q1 : fM_countWith τ 1 = some (tp_nI (tp_cw σ 1)) := e1
        have q2 : fC_chunksWith σ 2 = some (tp_nI (tp_cw σ 2)) := e2
        have ha := tp_al_cw σ
        have hle := tp_al_le σ
        have hs : tp_nI (tp_cw σ 0) + tp_nI (tp_cw σ 1) = tp_nI (tp_cw σ 0 + tp_cw σ 1) := (Int32.ofNat_add _ _).symm
        rw [if_pos hl, if_pos hl, q0, q1, q2, tp_C_al, tp_M_al I R, tp_C_cap, tp_M_cap R]
        simp only [Option.bind_some]
        rw [hs]
        by_cases h2 : tp_cw σ 0 + tp_cw σ 1 = 0
        · rw [if_pos ((tp_nI_le (by omega) (by omega)).mpr (by omega)), if_pos ((tp_nI_np (by omega)).mpr h2)]
          by_cases h3 : tp_nI (tp_al σ) ≤ tp_cap (tp_qB σ (tp_nI d)) (σ 0)
          · rw [if_pos h3, if_pos h3, tp_vn1]
            have ho1 : (tp_up σ 2 d 1) 1 d = tp_nI (tp_cn σ d) := I.2.1 d hd
            have hh : fC_hasLeft (tp_up σ 2 d 1) (tp_nI d) = some (tp_bI (decide (tp_cn σ d = 0))) := by
              rw [tp_C_hasLeft hd, ho1, show tp_up σ 2 d 1 2 d = 1 from tp_up_eq]
              congr 2
              by_cases z : tp_cn σ d = 0
              · rw [z]; rfl
              · rw [decide_eq_false z, decide_eq_false (fun v => z ((tp_nI_0 (by have := tp_cn_le σ d; omega)).mp v))]; rfl
            rw [hh, Option.bind_some, tp_if_bI, ho1]
            by_cases z : tp_cn σ d = 0
            · -- it has no copies: it is there no more
              have I1 : tp_Inv (tp_gone (tp_up σ 2 d 1) d) := by
                have k := I.gone hd z
                refine ⟨k.1, k.2.1, fun y hy => ?_, k.2.2.2⟩
                show (if y = d then 0 else if y = d then 1 else σ 2 y) = 0 ∨ ((if y = d then 0 else if y = d then 1 else σ 2 y) = 1 ∧ 0 < tp_cn σ y)
                by_cases v : y = d
                · exact .inl (if_pos v)
                · rw [if_neg v, if_neg v]; exact I.2.2.1 y hy
              have R1 : tp_Rel (fun y => y = d) (tp_gone (tp_up σ 2 d 1) d) (tp_up (tp_up τ 0 0 0) 2 d 1) := by
                refine ⟨fun y hy => ?_, R.2⟩
                show (τ 1 y = (if y = d then 0 else σ 0 y) ∨ (y = d ∧ (if y = d then 0 else σ 0 y) = 0 ∧ 0 < τ 1 y ∧ (if y = d then 1 else τ 2 y) ≠ 0)) ∧ (0 < (if y = d then 0 else σ 0 y) → (if y = d then 1 else τ 2 y) = (if y = d then 0 else if y = d then 1 else σ 2 y))
                by_cases v : y = d
                · simp only [if_pos v]
                  exact ⟨.inr ⟨v, trivial, by rw [v, R.pl hd]; exact h0, by decide⟩, fun u => absurd u (by decide)⟩
                · simp only [if_neg v]
                  exact ⟨.inl (R.pl hy), (R.1 y hy).2⟩
              obtain ⟨τ', t1, t2, t3⟩ := tp_M_tidy I1 R1
              have hu : fM_used (tp_up (tp_up τ 0 0 0) 2 d 1) (tp_nI d) = some (tp_nI (tp_cn σ d)) := tp_M_used I1 R1 hd
              rw [decide_eq_true z, if_pos rfl, tp_C_takeAway hd, Option.bind_some, hu, Option.bind_some, t1, Option.bind_some]
              exact ⟨0, _, _, _, τ', rfl, rfl, I1, t2, by rw [t3]; rfl, fun _ => rfl, by omega⟩
            · have I1 : tp_Inv (tp_up σ 2 d 1) := by
                refine ⟨I.1, I.2.1, fun y hy => ?_, I.2.2.2⟩
                show (if y = d then 1 else σ 2 y) = 0 ∨ ((if y = d then 1 else σ 2 y) = 1 ∧ 0 < tp_cn σ y)
                by_cases v : y = d
                · rw [if_pos v, v]; exact .inr ⟨rfl, by omega⟩
                · rw [if_neg v]; exact I.2.2.1 y hy
              have R1 : tp_Rel tp_noX (tp_up σ 2 d 1) (tp_up (tp_up τ 0 0 0) 2 d 1) := by
                refine ⟨fun y hy => ⟨.inl (R.pl hy), fun u => ?_⟩, R.2⟩
                show (if y = d then 1 else τ 2 y) = (if y = d then 1 else σ 2 y)
                by_cases v : y = d
                · rw [if_pos v, if_pos v]
                · rw [if_neg v, if_neg v]; exact (R.1 y hy).2 u
              obtain ⟨τ', t1, t2, t3⟩ := tp_M_tidy I1 R1
              have hu : fM_used (tp_up (tp_up τ 0 0 0) 2 d 1) (tp_nI d) = some (tp_nI (tp_cn σ d)) := tp_M_used I1 R1 hd
              rw [decide_eq_false z, if_neg (by decide), hu, Option.bind_some, t1, Option.bind_some]
              exact ⟨0, _, _, _, τ', rfl, rfl, I1, t2, by rw [t3]; rfl, fun _ => rfl, by omega⟩
          · rw [if_neg h3, if_neg h3]
            exact ⟨4, 0, σ, 0, tp_up τ 0 0 3, rfl, rfl, I, R.thrown 3, rfl, fun z => by omega, by omega⟩
        · rw [if_neg (fun v => by have := (tp_nI_le (by omega) (by omega)).mp v; omega), if_neg (fun v => h2 ((tp_nI_np (by omega)).mp v))]
          exact no2
      · rw [if_neg hl, if_neg hl]; exact no2
  · exact hno (tp_C_isThere_o (.inl z)) (tp_M_isDisk_o (.inl z))
  · exact hno (tp_C_isThere_o (.inr z)) (tp_M_isDisk_o (.inr z))
theorem tp_stay_sim {σ τ : tp_St} (I : tp_Inv σ) (R : tp_Rel tp_noX σ τ) (x : Int32) : tp_Ok0 (fC_stay σ x) (fM_stay τ x) tp_mpI := by
  have hno : ∀ (b1 : fC_isThere σ x = some 0) (b2 : fM_isDisk τ x = some 0), tp_Ok0 (fC_stay σ x) (fM_stay τ x) tp_mpI := fun b1 b2 =>
    ⟨1, 0, σ, tp_up τ 0 0 1, by rw [fC_stay, b1]; rfl, by rw [fM_stay, b2]; rfl, I, R.thrown 1, rfl, by omega⟩
  rcases tp_int_cases 12 (by omega) x with ⟨d, hd, e⟩ | z | z
  · cases ht : tp_th σ d with
    | false => exact hno (by rw [e, tp_C_isThere hd, ht]; rfl) (by rw [e, tp_M_isDisk R hd, ht]; rfl)
    | true =>
      have h0 : 0 < σ 0 d := of_decide_eq_true ht
      rw [fC_stay, fM_stay, e, tp_C_isThere hd, tp_M_isDisk R hd, ht, Option.bind_some, Option.bind_some, tp_if_bI, tp_if_bI, if_pos rfl, if_pos rfl, if_neg (tp_bd hd), if_neg (tp_bd hd), tp_td hd, (R.1 d hd).2 h0, tp_vn0]
      by_cases hl : σ 2 d = 0
      · rw [if_pos hl, if_pos hl]; exact ⟨2, 0, σ, tp_up τ 0 0 2, rfl, rfl, I, R.thrown 2, rfl, by omega⟩
      · rw [if_neg hl, if_neg hl]
        refine ⟨0, 0, tp_up σ 2 d 0, tp_up (tp_up τ 0 0 0) 2 d 0, rfl, rfl, ⟨I.1, I.2.1, fun y hy => ?_, I.2.2.2⟩, ⟨fun y hy => ⟨.inl (R.pl hy), fun u => ?_⟩, R.2⟩, rfl, by omega⟩
        · show (if y = d then 0 else σ 2 y) = 0 ∨ ((if y = d then 0 else σ 2 y) = 1 ∧ 0 < tp_cn σ y)
          by_cases v : y = d
          · exact .inl (if_pos v)
          · rw [if_neg v]; exact I.2.2.1 y hy
        · show (if y = d then 0 else τ 2 y) = (if y = d then 0 else σ 2 y)
          by_cases v : y = d
          · rw [if_pos v, if_pos v]
          · rw [if_neg v, if_neg v]; exact (R.1 y hy).2 u
  · exact hno (tp_C_isThere_o (.inl z)) (tp_M_isDisk_o (.inl z))
  · exact hno (tp_C_isThere_o (.inr z)) (tp_M_isDisk_o (.inr z))
