/-! The reference's way to a product. -/
def Am (σ : Sg) (A : Mx) : Prop := σ.2 159 11 = lI A.1 ∧ σ.2 159 12 = lI A.2.1 ∧ σ.2 159 13 = lI A.2.2.1 ∧ σ.2 159 14 = lI A.2.2.2
theorem am_tk {σ : Sg} {x1 x2 x3 x4 : Int64} {A : Mx} (h1 : x1 = lI A.1) (h2 : x2 = lI A.2.1) (h3 : x3 = lI A.2.2.1) (h4 : x4 = lI A.2.2.2) : Am (sX11_takes x1 x2 x3 x4 σ) A := by
  subst h1 h2 h3 h4
  refine ⟨?_, ?_, ?_, ?_⟩ <;> simp [sX11_takes, u2]
theorem am_fr {σ τ : Sg} {A : Mx} (e : τ.2 159 11 = σ.2 159 11 ∧ τ.2 159 12 = σ.2 159 12 ∧ τ.2 159 13 = σ.2 159 13 ∧ τ.2 159 14 = σ.2 159 14) (h : Am σ A) : Am τ A := by
  unfold Am at *
  rw [e.1, e.2.1, e.2.2.1, e.2.2.2]; exact h
theorem lN_lI (n : Nat) : lN n = lI (n : Int) := by
  unfold lN lI
  first | rfl | exact (Int64.ofInt_eq_ofNat).symm | simp
theorem rt_ok {v : Int} (hv : v < 17592186044416) : ∀ (m : Nat) (r : Int), 0 ≤ r → r * r ≤ v → v < (r + (2 ^ m : Nat)) * (r + (2 ^ m : Nat)) → r + (2 ^ m : Nat) ≤ 4194304 → ∃ R, rtF (lI v) m (lI r) = lI R ∧ 0 ≤ R ∧ R * R ≤ v ∧ v < (R + 1) * (R + 1)
  | 0, r, h0, h1, h2, h3 => ⟨r, rfl, h0, h1, by simpa using h2⟩
  | m + 1, r, h0, h1, h2, h3 => by
    have e2 : ((2 ^ (m + 1) : Nat) : Int) = (2 ^ m : Nat) + (2 ^ m : Nat) := by
      rw [Nat.pow_succ]; omega
    have hp : (0 : Int) < (2 ^ m : Nat) := by
      have := Nat.pow_pos (n := m) (show 0 < 2 by omega)
      omega
    rw [e2] at h2 h3
    have hv0 : 0 ≤ v := by
      have := Int.mul_nonneg h0 h0
      omega
    rw [rtF, bt, lN_lI, lI_add, lI_mul]
    generalize hP : ((2 ^ m : Nat) : Int) = P at *
    have b1 : (r + P) * (r + P) ≤ 4194304 * 4194304 := Int.mul_le_mul (by omega) (by omega) (by omega) (by omega)
    have b2 : 0 ≤ (r + P) * (r + P) := Int.mul_nonneg (by omega) (by omega)
    have c := lI_lt (x := v) (y := (r + P) * (r + P)) (by unfold rg; omega) (by unfold rg; omega)
    by_cases q : v < (r + P) * (r + P)
    · rw [if_pos (c.mpr q)]
      exact rt_ok hv m r h0 h1 (by rw [hP]; exact q) (by rw [hP]; omega)
    · rw [if_neg (fun z => q (c.mp z))]
      exact rt_ok hv m (r + P) (by omega) (by omega) (by rw [hP, Int.add_assoc]; exact h2) (by rw [hP]; omega)
theorem rt_t {t : Int} (h3 : 3 ≤ t) (ht : t ≤ 2000000) : rtF (lI t * lI t - 4) 22 0 = lI (t - 1) := by
  have tb := Int.mul_le_mul ht ht (by omega) (by omega)
  have tb2 := Int.mul_le_mul h3 h3 (by omega) (by omega)
  obtain ⟨R, e, r0, r1, r2⟩ := rt_ok (v := t * t - 4) (by omega) 22 0 (by omega) (by omega) (by simp; omega) (by simp)
  rw [lI_mul, show (4 : Int64) = lI 4 from rfl, lI_sub]
  refine (show rtF (lI (t * t - 4)) 22 (lI 0) = _ from ?_)
  have hR : R = t - 1 := by
    have e1 : (t - 1) * (t - 1) = t * t - 2 * t + 1 := by grind
    by_cases c1 : t ≤ R
    · have := Int.mul_le_mul c1 c1 (by omega) (by omega)
      omega
    · by_cases c2 : R + 1 ≤ t - 1
      · have := Int.mul_le_mul c2 c2 (by omega) (by omega)
        omega
      · omega
  rw [e, hR]
def prt (p q r : Int) : Int := ((if q < 0 then -p else p) + r) / (if q < 0 then -q else q)
theorem prt_lI {p q r : Int} {σ : Sg} (hp : -10000000 ≤ p ∧ p ≤ 10000000) (hq : -10000000 ≤ q ∧ q ≤ 10000000) (hr : -10000000 ≤ r ∧ r ≤ 10000000) (h0 : q ≠ 0) : rX11_part (lI p) (lI q) (lI r) σ = lI (prt p q r) := by
  unfold rX11_part prt
  have rq : rg q := by unfold rg; omega
  rw [far_lI rq]
  by_cases c : q < 0
  · rw [if_pos ((lI_lt0 rq).mpr c), if_pos c, if_pos c, lI_0, lI_sub, lI_add, fl_lI (by unfold sm; omega) (by unfold sm; omega) (by omega), show (0 : Int) - p = -p by omega]
  · rw [if_neg (fun z => c ((lI_lt0 rq).mp z)), if_neg c, if_neg c, lI_add, fl_lI (by unfold sm; omega) (by unfold sm; omega) (by omega)]
theorem ca_dec {B : Mx} {P C r : Int} (hd : mdt B = 1) (ht : 3 ≤ mtr B) (hr : r = mtr B - 1) (hP : P * P = (B.2.2.2 - B.1) * (B.2.2.2 - B.1)) (h1 : -r ≤ P) (h2 : P + r < 2 * C) (hC : (B.2.2.1.natAbs : Int) = C) (hl : ¬ lik B) : (B.2.1.natAbs : Int) < C := by
  obtain ⟨u1, u2⟩ := ul_neg hd ht hl
  have h3 := four_bc hd
  rw [← hP] at h3
  rw [hC] at u2
  generalize mtr B = t at *
  have e1 : r * r = t * t - 2 * t + 1 := by subst hr; grind
  have hp : r < P := by
    by_cases c : r < P
    · exact c
    · exfalso
      have := Int.mul_le_mul (show (P.natAbs : Int) ≤ r by omega) (show (P.natAbs : Int) ≤ r by omega) (by omega) (by omega)
      rw [← sq_abs] at this
      omega
  have e2 : (P - r) * (P + r) = P * P - r * r := by grind
  have h4 : (P - r) * (P + r) ≤ (P - r) * (2 * C) := Int.mul_le_mul_of_nonneg_left (by omega) (by omega)
  have h5 : (2 * (B.2.1.natAbs : Int)) * (2 * C) ≤ (P - r) * (2 * C) := by
    have : (2 * (B.2.1.natAbs : Int)) * (2 * C) = 4 * ((B.2.1.natAbs : Int) * C) := by grind
    omega
  have h6 := Int.le_of_mul_le_mul_right h5 (by omega)
  omega
theorem ca_near {A : Mx} {r : Int} (h : A.2.2.1 ≠ 0) : ∃ P, P * P = ((cR (-(prt (A.1 - A.2.2.2) (2 * A.2.2.1) r)) A).2.2.2 - (cR (-(prt (A.1 - A.2.2.2) (2 * A.2.2.1) r)) A).1) * ((cR (-(prt (A.1 - A.2.2.2) (2 * A.2.2.1) r)) A).2.2.2 - (cR (-(prt (A.1 - A.2.2.2) (2 * A.2.2.1) r)) A).1) ∧ -r ≤ P ∧ P + r < 2 * (A.2.2.1.natAbs : Int) ∧ (((cR (-(prt (A.1 - A.2.2.2) (2 * A.2.2.1) r)) A).2.2.2 - (cR (-(prt (A.1 - A.2.2.2) (2 * A.2.2.1) r)) A).1) = P ∨ ((cR (-(prt (A.1 - A.2.2.2) (2 * A.2.2.1) r)) A).2.2.2 - (cR (-(prt (A.1 - A.2.2.2) (2 * A.2.2.1) r)) A).1) = -P) := by
  obtain ⟨a, b, c, d⟩ := A
  simp only [cR, prt] at *
  by_cases hp : c < 0
  · rw [if_pos (show 2 * c < 0 by omega), if_pos (show 2 * c < 0 by omega)]
    have := ed_bd (x := -(a - d) + r) (y := -(2 * c)) (by omega)
    generalize (-(a - d) + r) / -(2 * c) = K at *
    have e : K * -(2 * c) = -(2 * (K * c)) := by grind
    rw [e] at this
    have e3 : -K * c = -(K * c) := by grind
    refine ⟨d - -K * c - (a + -K * c), rfl, ?_, ?_, Or.inl rfl⟩
    · omega
    · omega
  · rw [if_neg (show ¬ 2 * c < 0 by omega), if_neg (show ¬ 2 * c < 0 by omega)]
    have := ed_bd (x := a - d + r) (y := 2 * c) (by omega)
    generalize (a - d + r) / (2 * c) = K at *
    have e : K * (2 * c) = 2 * (K * c) := by grind
    rw [e] at this
    have e3 : -K * c = -(K * c) := by grind
    refine ⟨-(d - -K * c - (a + -K * c)), by grind, ?_, ?_, Or.inr (by omega)⟩
    · omega
    · omega
/-- the other diagonal -/
def swp (A : Mx) : Mx := (A.2.2.2, A.2.2.1, A.2.1, A.1)
theorem swp_L (K : Int) (A : Mx) : cL K A = swp (cR K (swp A)) := by
  apply mx_ext <;> simp only [cL, cR, swp]
theorem swp_dt (A : Mx) : mdt (swp A) = mdt A := by unfold mdt swp; simp only; grind
theorem swp_tr (A : Mx) : mtr (swp A) = mtr A := by unfold mtr swp; simp only; omega
theorem swp_lik (A : Mx) : lik (swp A) ↔ lik A := by unfold lik swp; simp only; omega
/-- one step: what it leaves -/
theorem ca_st {A : Mx} (hd : mdt A = 1) (h3 : 3 ≤ mtr A) (ht : mtr A ≤ 2000000) (hc : A.2.2.1.natAbs ≤ 1000000) : ((cR (-(prt (A.1 - A.2.2.2) (2 * A.2.2.1) (mtr A - 1))) A).1.natAbs ≤ 2000000 ∧ (cR (-(prt (A.1 - A.2.2.2) (2 * A.2.2.1) (mtr A - 1))) A).2.2.2.natAbs ≤ 2000000) ∧ (cR (-(prt (A.1 - A.2.2.2) (2 * A.2.2.1) (mtr A - 1))) A).2.2.1 = A.2.2.1 ∧ sm (cR (-(prt (A.1 - A.2.2.2) (2 * A.2.2.1) (mtr A - 1))) A).2.1 ∧ (¬ lik (cR (-(prt (A.1 - A.2.2.2) (2 * A.2.2.1) (mtr A - 1))) A) → (cR (-(prt (A.1 - A.2.2.2) (2 * A.2.2.1) (mtr A - 1))) A).2.1.natAbs < A.2.2.1.natAbs) := by
  obtain ⟨P, p1, p2, p3, p4⟩ := ca_near (A := A) (r := mtr A - 1) (bc_ne hd h3).2
  have d1 := mdt_cR (-(prt (A.1 - A.2.2.2) (2 * A.2.2.1) (mtr A - 1))) A hd
  have t1 := mtr_cR (-(prt (A.1 - A.2.2.2) (2 * A.2.2.1) (mtr A - 1))) A
  have c1 : (cR (-(prt (A.1 - A.2.2.2) (2 * A.2.2.1) (mtr A - 1))) A).2.2.1 = A.2.2.1 := rfl
  have tb := tt_bd h3 ht
  generalize cR (-(prt (A.1 - A.2.2.2) (2 * A.2.2.1) (mtr A - 1))) A = B at *
  have tB : B.1 + B.2.2.2 = mtr A := t1
  have dec : ¬ lik B → B.2.1.natAbs < A.2.2.1.natAbs := fun hl => by
    have := ca_dec (P := P) (C := (A.2.2.1.natAbs : Int)) (r := mtr A - 1) d1 (by omega) (by omega) p1 p2 p3 (by rw [c1]) hl
    omega
  refine ⟨by omega, c1, ?_, dec⟩
  by_cases hl : lik B
  · have := (lk_bd d1 hl).1
    rw [t1] at this
    unfold sm
    omega
  · have := dec hl
    unfold sm
    omega
theorem ca_up {m : Nat} {σ : Sg} {A : Mx} {t : Int} (hA : Am σ A) (hs : sml A) (hc : A.2.2.1 ≠ 0) (hb : A.2.1 ≠ 0) (hl : ¬ lik A) (h3 : 3 ≤ t) (ht : t ≤ 2000000) : ∃ σ', caF (lI (t - 1)) (m + 1) true σ = caF (lI (t - 1)) m false σ' ∧ Am σ' (cR (-(prt (A.1 - A.2.2.2) (2 * A.2.2.1) (t - 1))) A) := by
  obtain ⟨h1, h2, h3', h4⟩ := hA
  obtain ⟨s1, s2, s3, s4⟩ := hs
  have hpart : rX11_part (σ.2 159 11 - σ.2 159 14) (2 * σ.2 159 13) (lI (t - 1)) σ = lI (prt (A.1 - A.2.2.2) (2 * A.2.2.1) (t - 1)) := by
    rw [h1, h3', h4, lI_sub, lI_2, lI_mul, prt_lI (by omega) (by omega) (by omega) (by omega)]
  have hfar : ¬ rX11_far (2 * σ.2 159 13) σ = 0 := by
    rw [h3', lI_2, lI_mul, far_lI (by unfold rg; omega)]
    intro z
    have := (lI_eq0 (by unfold rg; split <;> omega)).mp z
    split at this <;> omega
  rw [caF, hpart]
  generalize prt (A.1 - A.2.2.2) (2 * A.2.2.1) (t - 1) = K
  have am : Am (sX11_takes ((σ.2 159 11) - (lI K * (σ.2 159 13))) ((((σ.2 159 11) * lI K) + (σ.2 159 12)) - (lI K * (((σ.2 159 13) * lI K) + (σ.2 159 14)))) (σ.2 159 13) (((σ.2 159 13) * lI K) + (σ.2 159 14)) σ) (cR (-K) A) := by
    apply am_tk
    · rw [h1, h3', lI_mul, lI_sub]; congr 1; simp only [cR]; grind
    · rw [h1, h2, h3', h4, lI_mul, lI_mul, lI_add, lI_add, lI_mul, lI_sub]; congr 1; simp only [cR]; grind
    · rw [h3']; rfl
    · rw [h3', h4, lI_mul, lI_add]; congr 1; simp only [cR]; grind
  have e1 : σ.2 159 12 < 0 ↔ A.2.1 < 0 := by rw [h2]; exact lI_lt0 (by unfold rg; omega)
  have e2 : σ.2 159 13 < 0 ↔ A.2.2.1 < 0 := by rw [h3']; exact lI_lt0 (by unfold rg; omega)
  unfold lik at hl
  by_cases c1 : A.2.1 < 0
  · rw [if_pos (e1.mpr c1), if_neg (fun z => by have := e2.mp z; omega), if_neg hfar]
    exact ⟨_, rfl, am⟩
  · rw [if_neg (fun z => c1 (e1.mp z)), if_pos (e2.mpr (by omega)), if_neg hfar]
    exact ⟨_, rfl, am⟩
theorem ca_dn {m : Nat} {σ : Sg} {A : Mx} {t : Int} (hA : Am σ A) (hs : sml A) (hc : A.2.2.1 ≠ 0) (hb : A.2.1 ≠ 0) (hl : ¬ lik A) (h3 : 3 ≤ t) (ht : t ≤ 2000000) : ∃ σ', caF (lI (t - 1)) (m + 1) false σ = caF (lI (t - 1)) m true σ' ∧ Am σ' (cL (-(prt (A.2.2.2 - A.1) (2 * A.2.1) (t - 1))) A) := by
  obtain ⟨h1, h2, h3', h4⟩ := hA
  obtain ⟨s1, s2, s3, s4⟩ := hs
  have hpart : rX11_part (σ.2 159 14 - σ.2 159 11) (2 * σ.2 159 12) (lI (t - 1)) σ = lI (prt (A.2.2.2 - A.1) (2 * A.2.1) (t - 1)) := by
    rw [h1, h2, h4, lI_sub, lI_2, lI_mul, prt_lI (by omega) (by omega) (by omega) (by omega)]
  have hfar : ¬ rX11_far (2 * σ.2 159 12) σ = 0 := by
    rw [h2, lI_2, lI_mul, far_lI (by unfold rg; omega)]
    intro z
    have := (lI_eq0 (by unfold rg; split <;> omega)).mp z
    split at this <;> omega
  rw [caF, hpart]
  generalize prt (A.2.2.2 - A.1) (2 * A.2.1) (t - 1) = K
  have am : Am (sX11_takes ((σ.2 159 11) + ((σ.2 159 12) * lI K)) (σ.2 159 12) (((σ.2 159 13) + ((σ.2 159 14) * lI K)) - (lI K * ((σ.2 159 11) + ((σ.2 159 12) * lI K)))) ((σ.2 159 14) - (lI K * (σ.2 159 12))) σ) (cL (-K) A) := by
    apply am_tk
    · rw [h1, h2, lI_mul, lI_add]; congr 1; simp only [cL]; grind
    · rw [h2]; rfl
    · rw [h1, h2, h3', h4, lI_mul, lI_mul, lI_add, lI_add, lI_mul, lI_sub]; congr 1; simp only [cL]; grind
    · rw [h2, h4, lI_mul, lI_sub]; congr 1; simp only [cL]; grind
  have e1 : σ.2 159 12 < 0 ↔ A.2.1 < 0 := by rw [h2]; exact lI_lt0 (by unfold rg; omega)
  have e2 : σ.2 159 13 < 0 ↔ A.2.2.1 < 0 := by rw [h3']; exact lI_lt0 (by unfold rg; omega)
  unfold lik at hl
  by_cases c1 : A.2.1 < 0
  · rw [if_pos (e1.mpr c1), if_neg (fun z => by have := e2.mp z; omega), if_neg hfar]
    exact ⟨_, rfl, am⟩
  · rw [if_neg (fun z => c1 (e1.mp z)), if_pos (e2.mpr (by omega)), if_neg hfar]
    exact ⟨_, rfl, am⟩
theorem caF_end {r : Int64} {m : Nat} {u : Bool} {σ : Sg} {A : Mx} (hA : Am σ A) (hB : big A) (hd : mdt A = 1) (h3 : 3 ≤ mtr A) (hl : lik A) : ∃ τ w C, caF r (m + 1) u σ = some τ ∧ Am τ (mw w) ∧ cjb C A (mw w) ∧ true ∈ w ∧ false ∈ w ∧ (0 ≤ A.2.1 → τ = σ) := by
  obtain ⟨h1, h2, h3', h4⟩ := id hA
  obtain ⟨s1, s2, s3, s4⟩ := hB
  have e1 : σ.2 159 12 < 0 ↔ A.2.1 < 0 := by rw [h2]; exact lI_lt0 (sm_rg s2)
  have e2 : σ.2 159 13 < 0 ↔ A.2.2.1 < 0 := by rw [h3']; exact lI_lt0 (sm_rg s3)
  unfold lik at hl
  by_cases c1 : A.2.1 < 0
  · have j := cj_cS A
    obtain ⟨w, g1, g2, g3⟩ := lk_word (A := cS A) (by rw [← j.dt]; exact hd) (by rw [← j.tr]; exact h3) (by show 0 < -A.2.2.1; omega) (by show 0 < -A.2.1; omega)
    have am : Am (sX11_takes (σ.2 159 14) (0 - (σ.2 159 13)) (0 - (σ.2 159 12)) (σ.2 159 11) σ) (cS A) := by
      apply am_tk
      · rw [h4]; rfl
      · rw [h3', lI_0, lI_sub]; congr 1; simp only [cS]; omega
      · rw [h2, lI_0, lI_sub]; congr 1; simp only [cS]; omega
      · rw [h1]; rfl
    refine ⟨_, w, _, ?_, by rw [g1]; exact am, by rw [g1]; exact j, g2, g3, fun z => by omega⟩
    cases u
    · rw [caF, if_pos (e1.mpr c1), if_pos (e2.mpr (by omega))]
    · rw [caF, if_pos (e1.mpr c1), if_pos (e2.mpr (by omega))]
  · obtain ⟨w, g1, g2, g3⟩ := lk_word (A := A) hd h3 (by omega) (by omega)
    refine ⟨σ, w, mo, ?_, by rw [g1]; exact hA, by rw [g1]; exact cjb.rfl', g2, g3, fun _ => rfl⟩
    cases u
    · rw [caF, if_neg (fun z => c1 (e1.mp z)), if_neg (fun z => by have := e2.mp z; omega)]
    · rw [caF, if_neg (fun z => c1 (e1.mp z)), if_neg (fun z => by have := e2.mp z; omega)]
theorem ca_go {t : Int} (h3 : 3 ≤ t) (ht : t ≤ 2000000) : ∀ (m : Nat) (u : Bool) (σ : Sg) (A : Mx), Am σ A → mdt A = 1 → mtr A = t → big A → (¬ lik A → A.1.natAbs ≤ 2000000 ∧ A.2.2.2.natAbs ≤ 2000000 ∧ A.2.1.natAbs ≤ 1000000 ∧ A.2.2.1.natAbs ≤ 1000000) → (¬ lik A → (if u = true then A.2.2.1.natAbs else A.2.1.natAbs) < m) → ∃ τ w C, caF (lI (t - 1)) (m + 1) u σ = some τ ∧ Am τ (mw w) ∧ cjb C A (mw w) ∧ true ∈ w ∧ false ∈ w := by
  intro m
  induction m with
  | zero =>
    intro u σ A hA hd hT hB hs hm
    by_cases hl : lik A
    · obtain ⟨τ, w, C, g1, g2, g3, g4, g5, _⟩ := caF_end (r := lI (t - 1)) (m := 0) (u := u) hA hB hd (by omega) hl
      exact ⟨τ, w, C, g1, g2, g3, g4, g5⟩
    · exact absurd (hm hl) (Nat.not_lt_zero _)
  | succ m ih =>
    intro u σ A hA hd hT hB hs hm
    by_cases hl : lik A
    · obtain ⟨τ, w, C, g1, g2, g3, g4, g5, _⟩ := caF_end (r := lI (t - 1)) (m := m + 1) (u := u) hA hB hd (by omega) hl
      exact ⟨τ, w, C, g1, g2, g3, g4, g5⟩
    · obtain ⟨q1, q2, q3, q4⟩ := hs hl
      have hm' := hm hl
      obtain ⟨nb, nc⟩ := bc_ne hd (by omega : 3 ≤ mtr A)
      have hsl : sml A := by unfold sml; omega
      cases u with
      | true =>
        obtain ⟨σ', e, am⟩ := ca_up (m := m + 1) hA hsl nc nb hl h3 ht
        have st := ca_st hd (by omega) (by omega) q4
        have j := cj_cR (-(prt (A.1 - A.2.2.2) (2 * A.2.2.1) (t - 1))) A
        rw [hT] at st
        rw [if_pos rfl] at hm'
        generalize cR (-(prt (A.1 - A.2.2.2) (2 * A.2.2.1) (t - 1))) A = B at *
        obtain ⟨⟨k1, k2⟩, k3, k4, k5⟩ := st
        obtain ⟨τ, w, C, g1, g2, g3, g4, g5⟩ := ih false σ' B am (by rw [← j.dt]; exact hd) (by rw [← j.tr]; exact hT) ⟨by unfold sm; omega, k4, by rw [k3]; exact hB.2.2.1, by unfold sm; omega⟩ (fun z => by have := k5 z; rw [k3]; omega) (fun z => by rw [if_neg (by decide)]; have := k5 z; omega)
        exact ⟨τ, w, _, by rw [e]; exact g1, g2, j.trans g3, g4, g5⟩
      | false =>
        obtain ⟨σ', e, am⟩ := ca_dn (m := m + 1) hA hsl nc nb hl h3 ht
        have st := ca_st (A := swp A) (by rw [swp_dt]; exact hd) (by rw [swp_tr]; omega) (by rw [swp_tr]; omega) q3
        have j := cj_cL (-(prt (A.2.2.2 - A.1) (2 * A.2.1) (t - 1))) A
        rw [swp_tr, hT] at st
        rw [if_neg (by decide)] at hm'
        rw [swp_L] at am j
        have em : cR (-(prt ((swp A).1 - (swp A).2.2.2) (2 * (swp A).2.2.1) (t - 1))) (swp A) = cR (-(prt (A.2.2.2 - A.1) (2 * A.2.1) (t - 1))) (swp A) := rfl
        rw [em] at st
        generalize cR (-(prt (A.2.2.2 - A.1) (2 * A.2.1) (t - 1))) (swp A) = B at *
        obtain ⟨⟨k1, k2⟩, k3, k4, k5⟩ := st
        have k3' : B.2.2.1 = A.2.1 := k3
        have k5' : ¬ lik B → B.2.1.natAbs < A.2.1.natAbs := k5
        have b1 : (swp B).1 = B.2.2.2 := rfl
        have b2 : (swp B).2.1 = B.2.2.1 := rfl
        have b3 : (swp B).2.2.1 = B.2.1 := rfl
        have b4 : (swp B).2.2.2 = B.1 := rfl
        obtain ⟨τ, w, C, g1, g2, g3, g4, g5⟩ := ih true σ' (swp B) am (by rw [← j.dt]; exact hd) (by rw [← j.tr]; exact hT) ⟨by rw [b1]; unfold sm; omega, by rw [b2, k3']; exact hB.2.1, by rw [b3]; exact k4, by rw [b4]; unfold sm; omega⟩ (fun z => by have := k5' (fun y => z ((swp_lik B).mpr y)); rw [b1, b2, b3, b4, k3']; omega) (fun z => by rw [if_pos rfl, b3]; have := k5' (fun y => z ((swp_lik B).mpr y)); omega)
        exact ⟨τ, w, _, by rw [e]; exact g1, g2, j.trans g3, g4, g5⟩
theorem ca_ok {σ : Sg} {B : Mx} (hA : Am σ B) (hB : okM B) (h3 : 3 ≤ mtr B) (ht : mtr B ≤ 2000000) (h16 : σ.2 159 16 = lI (mtr B)) : CaOk σ ∧ ∃ w C, Am (caT σ) (mw w) ∧ cjb C B (mw w) ∧ true ∈ w ∧ false ∈ w := by
  have hb := hB.2
  unfold bdM at hb
  obtain ⟨τ, w, C, g1, g2, g3, g4, g5⟩ := ca_go h3 ht 9999999 true σ B hA hB.1 rfl (bdM_big hB.2) (fun _ => by omega) (fun _ => by rw [if_pos rfl]; omega)
  have e : caF (rtF (σ.2 159 16 * σ.2 159 16 - 4) 22 0) N0 true σ = some τ := by
    rw [h16, rt_t h3 ht]; exact g1
  refine ⟨?_, w, C, ?_, g3, g4, g5⟩
  · unfold CaOk; rw [e]; rfl
  · unfold caT; rw [e]; exact g2
/-- a product is left as it is -/
theorem ca_id {σ : Sg} {B : Mx} (hA : Am σ B) (hB : okM B) (h3 : 3 ≤ mtr B) (ht : mtr B ≤ 2000000) (h16 : σ.2 159 16 = lI (mtr B)) (hn : mnn B) : caT σ = σ := by
  have hl : lik B := by
    obtain ⟨nb, nc⟩ := bc_ne hB.1 h3
    unfold mnn at hn
    unfold lik
    omega
  obtain ⟨τ, w, C, g1, g2, g3, g4, g5, g6⟩ := caF_end (r := lI (mtr B - 1)) (m := 9999999) (u := true) hA (bdM_big hB.2) hB.1 h3 hl
  have e : caF (rtF (σ.2 159 16 * σ.2 159 16 - 4) 22 0) N0 true σ = some τ := by
    rw [h16, rt_t h3 ht]; exact g1
  unfold caT
  rw [e]
  exact g6 (by unfold mnn at hn; omega)
