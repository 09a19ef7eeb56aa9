/-! The class's way to a product. -/
def At (σ : Sg) (k : Nat) (A : Mx) : Prop := σ.2 k 0 = lI A.1 ∧ σ.2 k 1 = lI A.2.1 ∧ σ.2 k 2 = lI A.2.2.1 ∧ σ.2 k 3 = lI A.2.2.2
def cR (K : Int) (A : Mx) : Mx := (A.1 + K * A.2.2.1, A.2.1 + (K * (A.2.2.2 - A.1) - K * K * A.2.2.1), A.2.2.1, A.2.2.2 - K * A.2.2.1)
def cL (K : Int) (A : Mx) : Mx := (A.1 - K * A.2.1, A.2.1, A.2.2.1 + (K * (A.1 - A.2.2.2) - K * K * A.2.1), A.2.2.2 + K * A.2.1)
def cS (A : Mx) : Mx := (A.2.2.2, -A.2.2.1, -A.2.1, A.1)
theorem at_cR {σ : Sg} {k : Nat} {A : Mx} (h : At σ k A) (K : Int) : At (sX6_carryByR k (lI K) σ) k (cR K A) := by
  obtain ⟨h1, h2, h3, h4⟩ := h
  refine ⟨?_, ?_, ?_, ?_⟩ <;> simp [sX6_carryByR, u2, h1, h2, h3, h4, lI_add, lI_sub, lI_mul, cR]
theorem at_cL {σ : Sg} {k : Nat} {A : Mx} (h : At σ k A) (K : Int) : At (sX6_carryByL k (lI K) σ) k (cL K A) := by
  obtain ⟨h1, h2, h3, h4⟩ := h
  refine ⟨?_, ?_, ?_, ?_⟩ <;> simp [sX6_carryByL, u2, h1, h2, h3, h4, lI_add, lI_sub, lI_mul, cL]
theorem at_cS {σ : Sg} {k : Nat} {A : Mx} (h : At σ k A) : At (sX6_carryByS k σ) k (cS A) := by
  obtain ⟨h1, h2, h3, h4⟩ := h
  refine ⟨?_, ?_, ?_, ?_⟩ <;> simp [sX6_carryByS, u2, h1, h2, h3, h4, lI_neg, cS]
theorem cj_cR (K : Int) (A : Mx) : cjb (1, K, 0, 1) A (cR K A) := by
  refine ⟨by simp [mdt], ?_⟩
  apply mx_ext <;> simp only [mm, cR] <;> grind
theorem cj_cL (K : Int) (A : Mx) : cjb (1, 0, K, 1) A (cL K A) := by
  refine ⟨by simp [mdt], ?_⟩
  apply mx_ext <;> simp only [mm, cL] <;> grind
theorem cj_cS (A : Mx) : cjb (0, -1, 1, 0) A (cS A) := by
  refine ⟨by simp [mdt], ?_⟩
  apply mx_ext <;> simp only [mm, cS] <;> grind
def lik (A : Mx) : Prop := (0 < A.2.1 ∧ 0 < A.2.2.1) ∨ (A.2.1 < 0 ∧ A.2.2.1 < 0)
theorem at_lik {σ : Sg} {k : Nat} {A : Mx} (h : At σ k A) (hb : rg A.2.1) (hc : rg A.2.2.1) : rX6_hasLikeSides k σ = true ↔ lik A := by
  obtain ⟨h1, h2, h3, h4⟩ := h
  unfold rX6_hasLikeSides lik
  rw [h2, h3]
  have e1 := lI_0lt hb
  have e2 := lI_0lt hc
  have e3 := lI_lt0 hb
  have e4 := lI_lt0 hc
  by_cases p1 : 0 < A.2.1 <;> by_cases p2 : 0 < A.2.2.1 <;> by_cases p3 : A.2.1 < 0 <;> by_cases p4 : A.2.2.1 < 0 <;> simp [e1, e2, e3, e4, p1, p2, p3, p4]
def ste (A : Mx) : Int := if A.2.2.1 = 0 then 0 else if 0 < A.2.2.1 then (A.2.2.2 - A.1 + A.2.2.1) / (2 * A.2.2.1) else -((A.2.2.2 - A.1 + -A.2.2.1) / (2 * -A.2.2.1))
def sml (A : Mx) : Prop := (-3000000 ≤ A.1 ∧ A.1 ≤ 3000000) ∧ (-3000000 ≤ A.2.1 ∧ A.2.1 ≤ 3000000) ∧ (-3000000 ≤ A.2.2.1 ∧ A.2.2.1 ≤ 3000000) ∧ (-3000000 ≤ A.2.2.2 ∧ A.2.2.2 ≤ 3000000)
theorem half_lI {x : Int} (h : sm x) (h0 : 0 ≤ x) : lI (2 * x) / 2 = lI x := by
  unfold sm at h
  rw [lI_2, lI_divp (by unfold rg; omega) (by unfold rg; omega) (by omega), show 2 * x / 2 = x by omega]
theorem at_ste {σ : Sg} {k : Nat} {A : Mx} (h : At σ k A) (hs : sml A) : rX6_stepsToEvenOut k σ = lI (ste A) := by
  obtain ⟨h1, h2, h3, h4⟩ := h
  obtain ⟨s1, s2, s3, s4⟩ := hs
  unfold rX6_stepsToEvenOut ste
  rw [h1, h3, h4]
  obtain ⟨a, b, c, d⟩ := A
  simp only at *
  have rc : rg c := by unfold rg; omega
  rw [abs_lI rc]
  by_cases h0 : c = 0
  · subst h0
    rw [if_neg (show ¬ (0 : Int) < 0 by omega), lI_2, lI_mul, if_pos rfl, if_pos (show lI (2 * 0) = (0 : Int64) from rfl)]
    rfl
  · by_cases hp : 0 < c
    · rw [if_neg (show ¬ c < 0 by omega), lI_2, lI_mul, if_neg (by rw [lI_eq0 (by unfold rg; omega)]; omega), if_pos ((lI_0lt rc).mpr hp), ← lI_2, half_lI (by unfold sm; omega) (by omega), lI_sub, lI_add, fd_lI (by unfold sm; omega) (by unfold sm; omega) (by omega), if_neg h0, if_pos hp]
    · rw [if_pos (show c < 0 by omega), lI_2, lI_mul, if_neg (by rw [lI_eq0 (by unfold rg; omega)]; omega), if_neg (fun z => hp ((lI_0lt rc).mp z)), ← lI_2, half_lI (by unfold sm; omega) (by omega), lI_sub, lI_add, fd_lI (by unfold sm; omega) (by unfold sm; omega) (by omega), lI_neg, if_neg h0, if_neg hp]
theorem ste_near {A : Mx} (h : A.2.2.1 ≠ 0) : ((cR (ste A) A).2.2.2 - (cR (ste A) A).1).natAbs ≤ A.2.2.1.natAbs := by
  obtain ⟨a, b, c, d⟩ := A
  simp only [cR, ste] at *
  rw [if_neg h]
  by_cases hp : 0 < c
  · rw [if_pos hp]
    have := ed_bd (x := d - a + c) (y := 2 * c) (by omega)
    generalize (d - a + c) / (2 * c) = K at *
    have e : K * (2 * c) = 2 * (K * c) := by grind
    rw [e] at this
    omega
  · rw [if_neg hp]
    have := ed_bd (x := d - a + -c) (y := 2 * -c) (by omega)
    generalize (d - a + -c) / (2 * -c) = K at *
    have e : K * (2 * -c) = 2 * (-K * c) := by grind
    rw [e] at this
    omega
theorem nsq {t x : Int} (ht : 3 ≤ t) : x * x ≠ t * t - 4 := by
  intro e
  have h0 : x * x = (x.natAbs : Int) * x.natAbs := by
    rcases Int.natAbs_eq x with h | h
    · rw [← h]
    · have : (x.natAbs : Int) = -x := by omega
      rw [this]; grind
  by_cases h : t ≤ x.natAbs
  · have := Int.mul_le_mul h h (by omega) (by omega)
    omega
  · have := Int.mul_le_mul (show (x.natAbs : Int) ≤ t - 1 by omega) (show (x.natAbs : Int) ≤ t - 1 by omega) (by omega) (by omega)
    have e2 : (t - 1) * (t - 1) = t * t - 2 * t + 1 := by grind
    omega
theorem four_bc {A : Mx} (hd : mdt A = 1) : 4 * (A.2.1 * A.2.2.1) = mtr A * mtr A - 4 - (A.2.2.2 - A.1) * (A.2.2.2 - A.1) := by
  unfold mdt at hd
  unfold mtr
  grind
theorem bc_ne {A : Mx} (hd : mdt A = 1) (ht : 3 ≤ mtr A) : A.2.1 ≠ 0 ∧ A.2.2.1 ≠ 0 := by
  have h := four_bc hd
  have k := nsq (x := A.2.2.2 - A.1) ht
  refine ⟨fun z => ?_, fun z => ?_⟩
  · rw [z, Int.zero_mul] at h; omega
  · rw [z, Int.mul_zero] at h; omega
theorem sq_abs (x : Int) : x * x = (x.natAbs : Int) * x.natAbs := by
  rcases Int.natAbs_eq x with h | h
  · rw [← h]
  · have : (x.natAbs : Int) = -x := by omega
    rw [this]; grind
theorem ul_neg {A : Mx} (hd : mdt A = 1) (ht : 3 ≤ mtr A) (h : ¬ lik A) : A.2.1 * A.2.2.1 < 0 ∧ (A.2.1.natAbs : Int) * A.2.2.1.natAbs = -(A.2.1 * A.2.2.1) := by
  obtain ⟨hb, hc⟩ := bc_ne hd ht
  unfold lik at h
  obtain ⟨a, b, c, d⟩ := A
  simp only at *
  by_cases hp : 0 < b
  · have hcn : c < 0 := by omega
    have h1 := Int.mul_pos hp (show 0 < -c by omega)
    rw [Int.mul_neg] at h1
    refine ⟨by omega, ?_⟩
    rw [show (b.natAbs : Int) = b by omega, show (c.natAbs : Int) = -c by omega, Int.mul_neg]
  · have hcn : 0 < c := by omega
    have h1 := Int.mul_pos (show 0 < -b by omega) hcn
    rw [Int.neg_mul] at h1
    refine ⟨by omega, ?_⟩
    rw [show (b.natAbs : Int) = -b by omega, show (c.natAbs : Int) = c by omega, Int.neg_mul]
theorem cp_dec {A : Mx} (hd : mdt A = 1) (ht : 3 ≤ mtr A) (hn : (A.2.2.2 - A.1).natAbs ≤ A.2.2.1.natAbs) (hl : ¬ lik A) : 4 * A.2.1.natAbs < A.2.2.1.natAbs := by
  obtain ⟨h1, h2⟩ := ul_neg hd ht hl
  have h3 := four_bc hd
  have hc := (bc_ne hd ht).2
  rw [sq_abs (A.2.2.2 - A.1)] at h3
  have h4 : ((A.2.2.2 - A.1).natAbs : Int) * (A.2.2.2 - A.1).natAbs ≤ (A.2.2.1.natAbs : Int) * A.2.2.1.natAbs := Int.mul_le_mul (by omega) (by omega) (by omega) (by omega)
  have h5 : (9 : Int) ≤ mtr A * mtr A := Int.mul_le_mul ht ht (by omega) (by omega)
  have h6 : 4 * ((A.2.1.natAbs : Int) * A.2.2.1.natAbs) < (A.2.2.1.natAbs : Int) * A.2.2.1.natAbs := by omega
  rw [← Int.mul_assoc] at h6
  have h7 := Int.lt_of_mul_lt_mul_right h6 (by omega)
  omega
theorem lk_bd {A : Mx} (hd : mdt A = 1) (hl : lik A) : A.2.1.natAbs * 4 ≤ (mtr A * mtr A).natAbs ∧ A.2.2.1.natAbs * 4 ≤ (mtr A * mtr A).natAbs := by
  have h3 := four_bc hd
  have h4 : 0 ≤ (A.2.2.2 - A.1) * (A.2.2.2 - A.1) := by rw [sq_abs]; exact Int.mul_nonneg (by omega) (by omega)
  have h5 : (A.2.1.natAbs : Int) * A.2.2.1.natAbs = A.2.1 * A.2.2.1 := by
    rcases hl with ⟨p, q⟩ | ⟨p, q⟩
    · rw [show (A.2.1.natAbs : Int) = A.2.1 by omega, show (A.2.2.1.natAbs : Int) = A.2.2.1 by omega]
    · rw [show (A.2.1.natAbs : Int) = -A.2.1 by omega, show (A.2.2.1.natAbs : Int) = -A.2.2.1 by omega, Int.neg_mul_neg]
  have h6 : 1 ≤ (A.2.1.natAbs : Int) ∧ 1 ≤ (A.2.2.1.natAbs : Int) := by unfold lik at hl; omega
  have h7 := Int.mul_le_mul_of_nonneg_left h6.2 (show (0 : Int) ≤ A.2.1.natAbs by omega)
  have h8 := Int.mul_le_mul_of_nonneg_right h6.1 (show (0 : Int) ≤ A.2.2.1.natAbs by omega)
  omega
theorem mdt_cR (K : Int) (A : Mx) (h : mdt A = 1) : mdt (cR K A) = 1 := by rw [← (cj_cR K A).dt]; exact h
theorem mtr_cR (K : Int) (A : Mx) : mtr (cR K A) = mtr A := (cj_cR K A).tr.symm
/-- an end of the way: products but for the sign of both sides -/
def big (A : Mx) : Prop := sm A.1 ∧ sm A.2.1 ∧ sm A.2.2.1 ∧ sm A.2.2.2
theorem cpF_lik {k : Nat} {σ : Sg} (h : rX6_hasLikeSides k σ = true) : ∀ m, cpF k m σ = σ
  | 0 => rfl
  | m + 1 => by rw [cpF, if_pos h]
theorem tt_bd {t : Int} (h3 : 3 ≤ t) (h : t ≤ 2000000) : t * t ≤ 4000000000000 ∧ 0 ≤ t * t := by
  have := Int.mul_le_mul h h (by omega) (by omega)
  have := Int.mul_nonneg (show 0 ≤ t by omega) (show 0 ≤ t by omega)
  omega
theorem cp_go {k : Nat} : ∀ (m : Nat) (σ : Sg) (A : Mx), At σ k A → mdt A = 1 → 3 ≤ mtr A → mtr A ≤ 2000000 → sml A → A.2.2.1.natAbs ≤ 1000000 → A.2.2.1.natAbs < 4 ^ m → ∃ B C, At (cpF k m σ) k B ∧ cjb C A B ∧ lik B ∧ big B := by
  intro m
  induction m with
  | zero =>
    intro σ A h hd h3 ht hs hc hm
    exact absurd (bc_ne hd h3).2 (by simp at hm; omega)
  | succ m ih =>
    intro σ A h hd h3 ht hs hc hm
    have tb := tt_bd h3 ht
    have sA : big A := by
      obtain ⟨s1, s2, s3, s4⟩ := hs
      exact ⟨by unfold sm; omega, by unfold sm; omega, by unfold sm; omega, by unfold sm; omega⟩
    rw [cpF]
    by_cases hl : lik A
    · rw [if_pos ((at_lik h (sm_rg sA.2.1) (sm_rg sA.2.2.1)).mpr hl)]
      exact ⟨A, mo, h, cjb.rfl', hl, sA⟩
    · rw [if_neg (fun z => hl ((at_lik h (sm_rg sA.2.1) (sm_rg sA.2.2.1)).mp z))]
      have h1 := at_cR h (ste A)
      have near := ste_near (A := A) (bc_ne hd h3).2
      have d1 := mdt_cR (ste A) A hd
      have t1 := mtr_cR (ste A) A
      have j1 := cj_cR (ste A) A
      have c1 : (cR (ste A) A).2.2.1 = A.2.2.1 := rfl
      unfold cpS
      rw [at_ste h hs]
      generalize cR (ste A) A = B at *
      have tB : B.1 + B.2.2.2 = mtr A := t1
      have s3 := hs.2.2.1
      have aB : (-1500000 ≤ B.1 ∧ B.1 ≤ 1500000) ∧ (-1500000 ≤ B.2.2.2 ∧ B.2.2.2 ≤ 1500000) := by omega
      have bB : sm B.2.1 := by
        by_cases hlB : lik B
        · have := (lk_bd d1 hlB).1
          rw [t1] at this
          unfold sm
          omega
        · have := cp_dec d1 (by omega) (by omega) hlB
          unfold sm
          omega
      have sB : big B := ⟨by unfold sm; omega, bB, by unfold sm; omega, by unfold sm; omega⟩
      by_cases hlB : lik B
      · have q := (at_lik h1 (sm_rg sB.2.1) (sm_rg sB.2.2.1)).mpr hlB
        rw [if_pos q, cpF_lik q]
        exact ⟨B, _, h1, j1, hlB, sB⟩
      · rw [if_neg (fun z => hlB ((at_lik h1 (sm_rg sB.2.1) (sm_rg sB.2.2.1)).mp z))]
        have dec := cp_dec d1 (by omega) (by omega) hlB
        have j2 := cj_cS B
        have h2 := at_cS h1
        have e1 : (cS B).1 = B.2.2.2 := rfl
        have e2 : (cS B).2.1 = -B.2.2.1 := rfl
        have e3 : (cS B).2.2.1 = -B.2.1 := rfl
        have e4 : (cS B).2.2.2 = B.1 := rfl
        have hp : (4 : Nat) ^ (m + 1) = 4 ^ m * 4 := by rw [Nat.pow_succ]
        obtain ⟨E, C, g1, g2, g3, g4⟩ := ih _ (cS B) h2 (by rw [← j2.dt]; exact d1) (by rw [← j2.tr]; omega) (by rw [← j2.tr]; omega) (by unfold sml; rw [e1, e2, e3, e4]; omega) (by rw [e3]; omega) (by rw [e3]; omega)
        exact ⟨E, _, g1, (j1.trans j2).trans g2, g3, g4⟩
theorem lk_pos {A : Mx} (hd : mdt A = 1) (ht : 3 ≤ mtr A) (hb : 0 < A.2.1) (hc : 0 < A.2.2.1) : 0 < A.1 ∧ 0 < A.2.2.2 := by
  have h := Int.mul_pos hb hc
  unfold mdt at hd
  unfold mtr at ht
  obtain ⟨a, b, c, d⟩ := A
  simp only at *
  have h2 : 0 < a * d := by omega
  by_cases ha : 0 < a
  · exact ⟨ha, by
      by_cases hd0 : 0 < d
      · exact hd0
      · have := Int.mul_nonneg (show 0 ≤ a by omega) (show 0 ≤ -d by omega)
        rw [Int.mul_neg] at this
        omega⟩
  · exfalso
    have := Int.mul_nonneg (show 0 ≤ -a by omega) (show 0 ≤ d by omega)
    rw [Int.neg_mul] at this
    omega
theorem mem_t {w : List Bool} (h : 1 ≤ (mw w).2.1) : true ∈ w := by
  induction w with
  | nil => exact absurd h (by decide)
  | cons x w ih =>
    cases x
    · rw [mw_f] at h
      exact List.mem_cons_of_mem _ (ih h)
    · exact List.mem_cons_self
theorem mem_f {w : List Bool} (h : 1 ≤ (mw w).2.2.1) : false ∈ w := by
  induction w with
  | nil => exact absurd h (by decide)
  | cons x w ih =>
    cases x
    · exact List.mem_cons_self
    · rw [mw_t] at h
      exact List.mem_cons_of_mem _ (ih h)
theorem lk_word {A : Mx} (hd : mdt A = 1) (ht : 3 ≤ mtr A) (hb : 0 < A.2.1) (hc : 0 < A.2.2.1) : ∃ w, mw w = A ∧ true ∈ w ∧ false ∈ w := by
  obtain ⟨h1, h2⟩ := lk_pos hd ht hb hc
  obtain ⟨w, hw⟩ := mw_ex (A := A) ⟨by omega, by omega, by omega, by omega⟩ hd
  refine ⟨w, hw, mem_t ?_, mem_f ?_⟩ <;> rw [hw] <;> omega
theorem ctp_ok {k : Nat} {σ : Sg} {A : Mx} (h : At σ k A) (hd : mdt A = 1) (h3 : 3 ≤ mtr A) (ht : mtr A ≤ 2000000) (hs : sml A) (hc : A.2.2.1.natAbs ≤ 1000000) : ∃ w C, At (sX6_carryToProduct k σ) k (mw w) ∧ cjb C A (mw w) ∧ true ∈ w ∧ false ∈ w ∧ big (mw w) := by
  obtain ⟨B, C, g1, g2, g3, g4⟩ := cp_go 64 σ A h hd h3 ht hs hc (Nat.lt_of_le_of_lt hc (by decide +kernel))
  unfold sX6_carryToProduct cpE
  have dB : mdt B = 1 := by rw [← g2.dt]; exact hd
  have tB : 3 ≤ mtr B := by rw [← g2.tr]; exact h3
  rw [g1.2.1]
  by_cases hb : B.2.1 < 0
  · rw [if_pos ((lI_lt0 (sm_rg g4.2.1)).mpr hb)]
    have hcc : B.2.2.1 < 0 := by unfold lik at g3; omega
    have j := cj_cS B
    obtain ⟨w, e1, e2, e3⟩ := lk_word (A := cS B) (by rw [← j.dt]; exact dB) (by rw [← j.tr]; exact tB) (by show 0 < -B.2.2.1; omega) (by show 0 < -B.2.1; omega)
    obtain ⟨s1, s2, s3, s4⟩ := g4
    refine ⟨w, _, by rw [e1]; exact at_cS g1, by rw [e1]; exact g2.trans j, e2, e3, ?_⟩
    rw [e1]
    unfold sm at *
    refine ⟨s4, ?_, ?_, s1⟩
    · show sm (-B.2.2.1); unfold sm; omega
    · show sm (-B.2.1); unfold sm; omega
  · rw [if_neg (fun z => hb ((lI_lt0 (sm_rg g4.2.1)).mp z))]
    have hcc : 0 < B.2.1 ∧ 0 < B.2.2.1 := by unfold lik at g3; omega
    obtain ⟨w, e1, e2, e3⟩ := lk_word (A := B) dB tB hcc.1 hcc.2
    exact ⟨w, _, by rw [e1]; exact g1, by rw [e1]; exact g2, e2, e3, by rw [e1]; exact g4⟩
