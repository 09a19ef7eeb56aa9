/-! What the reference knows of a square. -/
theorem in_lI {x a b : Int} {σ : Sg} (hx : rg x) (ha : rg a) (hb : rg b) : rX11_in (lI x) (lI a) (lI b) σ = decide (a ≤ x ∧ x ≤ b) := by
  unfold rX11_in
  have e1 := lI_lt hx ha
  have e2 := lI_lt hb hx
  by_cases c1 : x < a
  · rw [if_pos (e1.mpr c1)]; symm; rw [decide_eq_false_iff_not]; omega
  · rw [if_neg (fun z => c1 (e1.mp z))]
    by_cases c2 : b < x
    · rw [if_pos (e2.mpr c2)]; symm; rw [decide_eq_false_iff_not]; omega
    · rw [if_neg (fun z => c2 (e2.mp z))]; symm; rw [decide_eq_true_iff]; omega
theorem am_kind {σ : Sg} {A : Mx} (h : Am σ A) (hA : okM A) (h16 : σ.2 159 16 = lI (mtr A)) : knK σ = knd A := by
  have hb := hA.2
  unfold bdM at hb
  have r : rg (mtr A) := by unfold rg mtr; omega
  obtain ⟨h1, h2, h3, h4⟩ := h
  unfold knK rX11_isOne knd
  rw [h16, h2, h3, show (-1 : Int64) = lI (-1) from rfl, show (1 : Int64) = lI 1 from rfl, show (-2 : Int64) = lI (-2) from rfl, show (2 : Int64) = lI 2 from rfl, in_lI r (by unfold rg; omega) (by unfold rg; omega), in_lI r (by unfold rg; omega) (by unfold rg; omega)]
  have e3 : lI A.2.1 = 0 ↔ A.2.1 = 0 := lI_eq0 (by unfold rg; omega)
  have e4 : lI A.2.2.1 = 0 ↔ A.2.2.1 = 0 := lI_eq0 (by unfold rg; omega)
  have rest : ¬ (A.2.1 = 0 ∧ A.2.2.1 = 0) → (if decide (-1 ≤ mtr A ∧ mtr A ≤ 1) = true then (1 : Int32) else if decide (-2 ≤ mtr A ∧ mtr A ≤ 2) = true then 2 else 3) = (if (mtr A).natAbs < 2 then 1 else if 2 < (mtr A).natAbs then 3 else if A.2.1 = 0 ∧ A.2.2.1 = 0 then 0 else 2) := by
    intro q
    by_cases c1 : (mtr A).natAbs < 2
    · rw [if_pos c1, if_pos (by rw [decide_eq_true_iff]; omega)]
    · rw [if_neg c1, if_neg (by rw [decide_eq_true_iff]; omega)]
      by_cases c2 : 2 < (mtr A).natAbs
      · rw [if_pos c2, if_neg (by rw [decide_eq_true_iff]; omega)]
      · rw [if_neg c2, if_pos (by rw [decide_eq_true_iff]; omega), if_neg q]
  by_cases c3 : A.2.1 = 0
  · by_cases c4 : A.2.2.1 = 0
    · have := one_tr hA.1 c3 c4
      rw [if_pos (e3.mpr c3), if_pos (e4.mpr c4), if_pos rfl, if_neg (by omega), if_neg (by omega), if_pos ⟨c3, c4⟩]
    · rw [if_pos (e3.mpr c3), if_neg (fun z => c4 (e4.mp z)), if_neg (by decide)]
      exact rest (fun z => c4 z.2)
  · rw [if_neg (fun z => c3 (e3.mp z)), if_neg (by decide)]
    exact rest (fun z => c3 z.1)
theorem am_chg {σ : Sg} {A : Mx} (h : Am σ A) : Am (sX11_changes σ) (mng A) := by
  obtain ⟨h1, h2, h3, h4⟩ := h
  unfold sX11_changes
  apply am_tk
  · rw [h1, lI_0, lI_sub]; congr 1; simp only [mng]; omega
  · rw [h2, lI_0, lI_sub]; congr 1; simp only [mng]; omega
  · rw [h3, lI_0, lI_sub]; congr 1; simp only [mng]; omega
  · rw [h4, lI_0, lI_sub]; congr 1; simp only [mng]; omega
theorem sq_dvd {g u v w : Nat} (hv : g ∣ v) (hw : g ∣ w) (h : u * u = v * w) : g ∣ u := by
  have : g ^ 2 ∣ u ^ 2 := by
    rw [Nat.pow_two, Nat.pow_two, h]
    exact Nat.mul_dvd_mul hv hw
  exact (Nat.pow_dvd_pow_iff (by decide)).mp this
theorem sh_gcd {B : Mx} (hd : mdt B = 1) (ht : mtr B = 2) : Nat.gcd (Nat.gcd (B.1 - 1).natAbs B.2.1.natAbs) B.2.2.1.natAbs = Nat.gcd B.2.1.natAbs B.2.2.1.natAbs := by
  have e : (B.1 - 1) * (B.1 - 1) = -(B.2.1 * B.2.2.1) := by
    unfold mdt at hd
    unfold mtr at ht
    have : B.2.2.2 = 2 - B.1 := by omega
    rw [this] at hd
    grind
  have e2 : (B.1 - 1).natAbs * (B.1 - 1).natAbs = B.2.1.natAbs * B.2.2.1.natAbs := by
    rw [← Int.natAbs_mul, ← Int.natAbs_mul, e, Int.natAbs_neg]
  rw [Nat.gcd_assoc]
  exact Nat.gcd_eq_right (sq_dvd (Nat.gcd_dvd_left _ _) (Nat.gcd_dvd_right _ _) e2)
theorem sh_sign {B : Mx} (hd : mdt B = 1) (ht : mtr B = 2) : B.2.1 * B.2.2.1 ≤ 0 := by
  have e := four_bc hd
  rw [ht] at e
  have : 0 ≤ (B.2.2.2 - B.1) * (B.2.2.2 - B.1) := by rw [sq_abs]; exact Int.mul_nonneg (by omega) (by omega)
  omega
theorem mul_np {x y : Int} (h : x * y ≤ 0) : (0 < x → y ≤ 0) ∧ (x < 0 → 0 ≤ y) := by
  refine ⟨fun hx => ?_, fun hx => ?_⟩
  · by_cases c : y ≤ 0
    · exact c
    · have := Int.mul_pos hx (show 0 < y by omega); omega
  · by_cases c : 0 ≤ y
    · exact c
    · have := Int.mul_pos (show 0 < -x by omega) (show 0 < -y by omega)
      rw [Int.neg_mul_neg] at this; omega
/-- what stays of a square at hand -/
def pkn (A : Mx) : Mx := if knd A = 0 ∨ knd A = 1 then A else psq A
theorem knd_cases (A : Mx) : knd A = 0 ∨ knd A = 1 ∨ knd A = 2 ∨ knd A = 3 := by
  unfold knd
  split
  · simp
  · split
    · simp
    · split <;> simp
theorem knd_2 {A : Mx} (h : knd A = 2) : (mtr A).natAbs = 2 ∧ ¬ (A.2.1 = 0 ∧ A.2.2.1 = 0) := by
  unfold knd at h
  split at h
  · exact absurd h (by decide)
  · split at h
    · exact absurd h (by decide)
    · split at h
      · exact absurd h (by decide)
      · next c => exact ⟨by omega, c⟩
theorem knn_sh {ρ : Sg} {A : Mx} (hA : okM A) (h2 : knd A = 2) (ha : Am ρ (psq A)) : (if 0 < ρ.2 159 12 then knN ρ else (if ρ.2 159 12 = 0 then (if ρ.2 159 13 < 0 then knN ρ else 0 - knN ρ) else 0 - knN ρ)) = lI (shN A) := by
  obtain ⟨t2, nz⟩ := knd_2 h2
  have hB := psq_ok hA
  have hT : mtr (psq A) = 2 := by
    unfold psq
    split
    · rw [mtr_ng]; omega
    · omega
  have hbA := hA.2
  have hbB := hB.2
  unfold bdM at hbA hbB
  obtain ⟨h1, h2', h3, h4⟩ := ha
  have eN : knN ρ = lI (Nat.gcd A.2.1.natAbs A.2.2.1.natAbs : Nat) := by
    unfold knN
    rw [h1, h2', h3, show (1 : Int64) = lI 1 from rfl, lI_sub, dv_lI (by omega) (by omega)]
    have g1 : Nat.gcd ((psq A).1 - 1).natAbs (psq A).2.1.natAbs < 100000000 := by
      by_cases c : ((psq A).1 - 1).natAbs = 0
      · rw [c, Nat.gcd_zero_left]; omega
      · have := Nat.gcd_le_left (psq A).2.1.natAbs (show 0 < ((psq A).1 - 1).natAbs by omega)
        omega
    rw [dv_lI (by rw [Int.natAbs_natCast]; exact g1) (by omega), Int.natAbs_natCast, sh_gcd hB.1 hT]
    unfold psq
    split
    · unfold mng; simp only [Int.natAbs_neg]
    · rfl
  have e1 : 0 < ρ.2 159 12 ↔ 0 < (psq A).2.1 := by rw [h2']; exact lI_0lt (by unfold rg; omega)
  have e2 : ρ.2 159 12 = 0 ↔ (psq A).2.1 = 0 := by rw [h2']; exact lI_eq0 (by unfold rg; omega)
  have e3 : ρ.2 159 13 < 0 ↔ (psq A).2.2.1 < 0 := by rw [h3]; exact lI_lt0 (by unfold rg; omega)
  have eN0 : 0 - knN ρ = lI (-((Nat.gcd A.2.1.natAbs A.2.2.1.natAbs : Nat) : Int)) := by
    rw [eN, lI_0, lI_sub]; congr 1; omega
  rw [eN0, eN]
  unfold shN
  obtain ⟨np1, np2⟩ := mul_np (sh_sign hB.1 hT)
  have nz' : ¬ ((psq A).2.1 = 0 ∧ (psq A).2.2.1 = 0) := by
    unfold psq
    split
    · unfold mng; simp only; omega
    · exact nz
  clear eN0 eN
  generalize ((Nat.gcd A.2.1.natAbs A.2.2.1.natAbs : Nat) : Int) = g
  have key : (0 < (psq A).2.1 ∨ ((psq A).2.1 = 0 ∧ (psq A).2.2.1 < 0)) ↔ ¬ ((0 < A.2.1 ∨ A.2.2.1 < 0) ↔ mtr A < 0) := by
    by_cases ct : mtr A < 0
    · have eq : psq A = mng A := by unfold psq; rw [if_pos ct]
      rw [eq] at np1 np2 nz' ⊢
      unfold mng at *
      simp only at *
      omega
    · have eq : psq A = A := by unfold psq; rw [if_neg ct]
      rw [eq] at np1 np2 nz' ⊢
      omega
  by_cases c1 : 0 < (psq A).2.1
  · rw [if_pos (e1.mpr c1), if_neg (key.mp (Or.inl c1))]
  · rw [if_neg (fun z => c1 (e1.mp z))]
    by_cases c2 : (psq A).2.1 = 0
    · rw [if_pos (e2.mpr c2)]
      by_cases c3 : (psq A).2.2.1 < 0
      · rw [if_pos (e3.mpr c3), if_neg (key.mp (Or.inr ⟨c2, c3⟩))]
      · rw [if_neg (fun z => c3 (e3.mp z)), if_pos (by
          apply Classical.byContradiction
          intro z
          rcases key.mpr z with q | q
          · exact c1 q
          · exact c3 q.2)]
    · rw [if_neg (fun z => c2 (e2.mp z)), if_pos (by
        apply Classical.byContradiction
        intro z
        rcases key.mpr z with q | q
        · exact c1 q
        · exact c2 q.1)]
theorem kP_ok {σ : Sg} {A : Mx} (h : Am σ A) (hA : okM A) : (kP σ).1 159 15 = knd A ∧ (kP σ).2 159 16 = lI (mtr A) ∧ (kP σ).2 159 17 = lI (if knd A = 2 then shN A else 0) ∧ (kP σ).1 159 20 = 0 ∧ (kP σ).2 159 21 = 0 ∧ (kP σ).1 159 25 = (if A.2.2.1 < 0 then -1 else 1) ∧ Am (kP σ) (pkn A) := by
  have hb := hA.2
  unfold bdM at hb
  have r : rg (mtr A) := by unfold rg mtr; omega
  unfold kP
  have a0 : Am (k0 σ) A := am_fr ⟨by unfold k0; dsimp only; rw [u2_j (by decide), u2_j (by decide), u2_j (by decide)], by unfold k0; dsimp only; rw [u2_j (by decide), u2_j (by decide), u2_j (by decide)], by unfold k0; dsimp only; rw [u2_j (by decide), u2_j (by decide), u2_j (by decide)], by unfold k0; dsimp only; rw [u2_j (by decide), u2_j (by decide), u2_j (by decide)]⟩ h
  have t0 : (k0 σ).2 159 16 = lI (mtr A) := by
    unfold k0; dsimp only; rw [u2_j (by decide), u2_j (by decide), u2_eq, h.1, h.2.2.2, lI_add]; rfl
  have b0 : (k0 σ).2 159 17 = 0 := by unfold k0; dsimp only; rw [u2_j (by decide), u2_eq]
  have l0 : (k0 σ).2 159 21 = 0 := by unfold k0; dsimp only; rw [u2_eq]
  have m0 : (k0 σ).1 159 20 = 0 := by unfold k0; dsimp only; rw [u2_eq]
  generalize k0 σ = ρ0 at *
  have eA : knK ρ0 = knd A := am_kind a0 hA t0
  have a1 : Am (kB (kA ρ0)) A := am_fr ⟨rfl, rfl, rfl, rfl⟩ a0
  have t1 : (kB (kA ρ0)).2 159 16 = lI (mtr A) := t0
  have b1 : (kB (kA ρ0)).2 159 17 = 0 := b0
  have l1 : (kB (kA ρ0)).2 159 21 = 0 := l0
  have m1 : (kB (kA ρ0)).1 159 20 = 0 := by unfold kB kA; dsimp only; rw [u2_j (by decide), u2_j (by decide)]; exact m0
  have c1 : (kB (kA ρ0)).1 159 15 = knd A := by unfold kB kA; dsimp only; rw [u2_j (by decide), u2_eq]; exact eA
  have s1 : (kB (kA ρ0)).1 159 25 = (if A.2.2.1 < 0 then -1 else 1) := by
    unfold kB kA
    dsimp only
    rw [u2_eq, a0.2.2.1]
    have e := lI_lt0 (x := A.2.2.1) (by unfold rg; omega)
    by_cases c : A.2.2.1 < 0
    · rw [if_pos c, if_pos (e.mpr c)]
    · rw [if_neg c, if_neg (fun z => c (e.mp z))]
  generalize kB (kA ρ0) = ρ1 at *
  have q : Am (kC ρ1) (pkn A) ∧ (kC ρ1).2 159 16 = lI (mtr A) ∧ (kC ρ1).2 159 17 = 0 ∧ (kC ρ1).2 159 21 = 0 := by
    unfold kC
    rw [c1, t1]
    have e := lI_lt0 r
    rcases knd_cases A with z | z | z | z
    · rw [if_pos (by rw [z]; decide)]
      unfold pkn
      rw [if_pos (Or.inl z)]
      exact ⟨a1, t1, b1, l1⟩
    · rw [if_pos (by rw [z]; decide)]
      unfold pkn
      rw [if_pos (Or.inr z)]
      exact ⟨a1, t1, b1, l1⟩
    all_goals
      rw [if_neg (show ¬ knd A ≤ 1 by rw [z]; decide)]
      unfold pkn psq
      rw [if_neg (show ¬ (knd A = 0 ∨ knd A = 1) by rw [z]; decide)]
      by_cases c : mtr A < 0
      · rw [if_pos (e.mpr c), if_pos c]
        refine ⟨am_chg a1, ?_, ?_, ?_⟩
        · unfold sX11_changes sX11_takes; dsimp only; rw [u2_j (by decide), u2_j (by decide), u2_j (by decide), u2_j (by decide)]; exact t1
        · unfold sX11_changes sX11_takes; dsimp only; rw [u2_j (by decide), u2_j (by decide), u2_j (by decide), u2_j (by decide)]; exact b1
        · unfold sX11_changes sX11_takes; dsimp only; rw [u2_j (by decide), u2_j (by decide), u2_j (by decide), u2_j (by decide)]; exact l1
      · rw [if_neg (fun y => c (e.mp y)), if_neg c]
        exact ⟨a1, t1, b1, l1⟩
  obtain ⟨a2, t2, b2, l2⟩ := q
  have c2 : (kC ρ1).1 = ρ1.1 := kC1 ρ1
  refine ⟨by rw [kD1, c2]; exact c1, ?_, ?_, by rw [kD1, c2]; exact m1, ?_, by rw [kD1, c2]; exact s1, ?_⟩
  · unfold kD
    split
    · dsimp only; rw [u2_j (by decide)]; exact t2
    · exact t2
  · unfold kD
    rw [c2, c1]
    by_cases z : knd A = 2
    · rw [if_pos z, if_pos z]
      dsimp only
      rw [u2_eq]
      exact knn_sh hA z (by have := a2; unfold pkn at this; rwa [if_neg (by rw [z]; decide)] at this)
    · rw [if_neg z, if_neg z]
      exact b2
  · unfold kD
    split
    · dsimp only; rw [u2_j (by decide)]; exact l2
    · exact l2
  · unfold kD
    split
    · exact am_fr ⟨by dsimp only; rw [u2_j (by decide)], by dsimp only; rw [u2_j (by decide)], by dsimp only; rw [u2_j (by decide)], by dsimp only; rw [u2_j (by decide)]⟩ a2
    · exact a2
/-! turning leaves times and letters -/
theorem rtl_back {α : Type} {u v : List α} {t : Nat} (hl : u.length = v.length) (ht : t ≤ u.length) (h : rtl u t = rtl v t) : u = v := by
  by_cases h0 : u.length = 0
  · have h1 : u = [] := List.length_eq_zero_iff.mp h0
    have h2 : v = [] := List.length_eq_zero_iff.mp (by omega)
    rw [h1, h2]
  · have e1 := rtl_rtl (w := u) (t := t) (i := u.length - t) ht (by omega) (by omega)
    have e2 := rtl_rtl (w := v) (t := t) (i := u.length - t) (by omega) (by omega) (by omega)
    rw [show t + (u.length - t) = u.length by omega, Nat.mod_self, rtl_0] at e1
    rw [show t + (u.length - t) = v.length by omega, Nat.mod_self, rtl_0] at e2
    rw [← e1, ← e2, h]
theorem rtl_fix {α : Type} {w : List α} {t k : Nat} (ht : t ≤ w.length) (hk : k ≤ w.length) : rtl (rtl w t) k = rtl w t ↔ rtl w k = w := by
  by_cases h0 : w.length = 0
  · have := List.length_eq_zero_iff.mp h0
    subst this
    simp [rtl]
  · have e : rtl (rtl w t) k = rtl (rtl w k) t := by
      rw [rtl_rtl ht hk (by omega), rtl_rtl hk ht (by omega), Nat.add_comm]
    rw [e]
    constructor
    · intro h
      exact rtl_back (by rw [rtl_len]) (by rw [rtl_len]; exact ht) h
    · intro h; rw [h]
theorem tmC_rtl {w : List Nat} {t : Nat} (ht : t ≤ w.length) : ∀ (m k : Nat), tmC (rtl w t) m k = tmC w m k
  | 0, _ => rfl
  | m + 1, k => by
    rw [tmC, tmC, rtl_len, tmC_rtl ht m (k + 2)]
    by_cases c : k < w.length
    · rw [if_pos c, if_pos c]
      have e := rtl_fix ht (show k ≤ w.length by omega)
      by_cases c2 : rtl w k = w
      · rw [if_pos c2, if_pos (e.mpr c2)]
      · rw [if_neg c2, if_neg (fun z => c2 (e.mp z))]
    · rw [if_neg c, if_neg c]
theorem TM_rtl {w : List Nat} {t : Nat} (ht : t ≤ w.length) : TM (rtl w t) = TM w := tmC_rtl ht 32 0
theorem sum_rtl (w : List Nat) (t : Nat) : (rtl w t).sum = w.sum := by
  unfold rtl
  rw [List.sum_append, Nat.add_comm, ← List.sum_append, List.take_append_drop]
/-- the reference's knowledge -/
def Knows (τ : Sg) (A : Mx) : Prop := τ.1 159 15 = knd A ∧ τ.2 159 16 = lI (mtr A) ∧ τ.2 159 17 = lI (if knd A = 2 then shN A else 0) ∧ τ.1 159 25 = (if A.2.2.1 < 0 then -1 else 1) ∧ τ.1 159 19 = nI (whl A).length ∧ Vl (τ.1 166) (whl A) ∧ τ.1 159 20 = nI (if knd A = 3 then TM (whl A) else 0) ∧ τ.2 159 21 = lI ((whl A).sum : Nat)
/-- where a product begins in its wheel -/
def Begs (τ : Sg) (A : Mx) : Prop := knd A = 3 → mnn A → ∃ (w : List Bool) (k : Nat), mw w = A ∧ 0 < w.length ∧ rtl w (k % w.length) = ex true (whl A) ∧ τ.2 159 22 = lI ((-(k : Int)) % (((whl A).sum / TM (whl A) : Nat) : Int))
theorem word_mem_len {w : List Bool} (h : true ∈ w ∧ false ∈ w) {x : Bool} {rs : List Nat} (e : w = ex x rs) : 2 ≤ rs.length := by
  cases rs with
  | nil => rw [e] at h; simp [ex] at h
  | cons n t =>
    cases t with
    | nil =>
      exfalso
      rw [e, ex_1] at h
      have h1 := List.eq_of_mem_replicate h.1
      have h2 := List.eq_of_mem_replicate h.2
      rw [← h1] at h2
      cases h2
    | cons m t => simp
/-- no run of a word is longer than a run of the merged row -/
theorem ex_len : ∀ (rs : List Nat) (x : Bool), (ex x rs).length = rs.sum
  | [], _ => rfl
  | n :: rs, x => by rw [ex, List.length_append, rep_len, ex_len rs, List.sum_cons]
theorem mem_sum : ∀ (rs : List Nat) (r : Nat), r ∈ rs → r ≤ rs.sum
  | n :: rs, r, h => by
    rw [List.sum_cons]
    rcases List.mem_cons.mp h with q | q
    · omega
    · have := mem_sum rs r q; omega
/-- what carries, spells, turns change -/
def I9 (a j : Nat) : Bool := a == 166 || a == 167 || a == 168 || (a == 159 && (j == 19 || j == 20))
def L9 (a j : Nat) : Bool := a == 159 && (j == 11 || j == 12 || j == 13 || j == 14 || j == 21 || j == 22)
theorem d167 (j : Nat) : I9 166 j = true := Eq.refl _
theorem d168 (j : Nat) : I9 167 j = true := Eq.refl _
theorem m79i (a j : Nat) (h : I9 a j = false) : I7 a j = false := by
  unfold I9 at h; unfold I7
  simp only [Bool.or_eq_false_iff, Bool.and_eq_false_iff, beq_eq_false_iff_ne] at h ⊢
  omega
theorem m79l (a j : Nat) (h : L9 a j = false) : L7 a j = false := by
  unfold L9 at h; unfold L7
  simp only [Bool.or_eq_false_iff, Bool.and_eq_false_iff, beq_eq_false_iff_ne] at h ⊢
  omega
theorem kq9_tk {x y z w : Int64} {σ : Sg} : Kq I9 L9 σ (sX11_takes x y z w σ) := by
  unfold sX11_takes
  exact (((Kq.l (τ := σ) (a := 159) (j := 11) (Eq.refl _) Kq.rfl).trans (Kq.l (a := 159) (j := 12) (Eq.refl _) Kq.rfl)).trans (Kq.l (a := 159) (j := 13) (Eq.refl _) Kq.rfl)).trans (Kq.l (a := 159) (j := 14) (Eq.refl _) Kq.rfl)
theorem kq9_some {σ τ ρ : Sg} (k : Kq I9 L9 σ ρ) (h : some ρ = some τ) : Kq I9 L9 σ τ := Option.some.inj h ▸ k
theorem kq9_ca {r : Int64} {τ : Sg} : ∀ (m : Nat) (u : Bool) (σ : Sg), caF r m u σ = some τ → Kq I9 L9 σ τ := by
  intro m
  induction m with
  | zero => intro u σ h; exact absurd h (by rw [caF]; exact fun z => nomatch z)
  | succ m ih =>
    intro u σ h
    have e1 : ∀ (q : Prop) [Decidable q] (ρ : Sg) (u : Bool), Kq I9 L9 σ ρ → (if q then none else caF r m u ρ) = some τ → Kq I9 L9 σ τ := by
      intro q _ ρ u k h
      split at h
      · exact some_absurd h
      · exact k.trans (ih _ _ h)
    cases u <;> (rw [caF] at h; split at h <;> split at h)
    all_goals first | exact kq9_some Kq.rfl h | exact kq9_some kq9_tk h | exact e1 _ _ _ kq9_tk h
theorem kq9_caT {σ : Sg} (h : CaOk σ) : Kq I9 L9 σ (caT σ) := kq9_ca _ _ _ (getD_some h)
theorem kq9_spE {f : Int32} {n : Int64} {σ τ : Sg} : Kq I9 L9 τ (spE f n σ τ) := by
  unfold spE
  exact Kq.i (τ := (_, τ.2)) (Eq.refl _) (Kq.i (τ := (_, τ.2)) (d168 _) (Kq.i (τ := τ) (d167 _) Kq.rfl))
theorem kq9_splS {σ : Sg} : Kq I9 L9 σ (splS σ) := by
  unfold splS spR spL
  split
  · exact kq9_tk.trans kq9_spE
  · exact kq9_tk.trans kq9_spE
theorem kq9_splF {τ : Sg} : ∀ (m : Nat) (σ : Sg), splF m σ = some τ → Kq I9 L9 σ τ := by
  intro m
  induction m with
  | zero => intro σ h; exact absurd h (by rw [splF]; exact fun z => nomatch z)
  | succ m ih =>
    intro σ h
    rw [splF] at h
    split at h
    · exact kq9_some Kq.rfl h
    · split at h
      · exact kq9_splS.trans (ih _ h)
      · exact some_absurd h
theorem kq9_splT {σ : Sg} (h : SplOk σ) : Kq I9 L9 σ (splT σ) := (Kq.i (τ := σ) (a := 159) (j := 19) (v := 0) (Eq.refl _) Kq.rfl).trans (kq9_splF _ _ (getD_some h))
theorem kq9_tuA {n : Nat} {σ : Sg} : Kq I9 L9 σ (tuA n σ).2.2 := by
  unfold tuA
  split
  · split
    · exact Kq.i (τ := (_, σ.2)) (Eq.refl _) (Kq.i (τ := (_, σ.2)) (d168 _) (Kq.i (τ := (_, σ.2)) (d167 _) (Kq.i (τ := σ) (d167 _) Kq.rfl)))
    · exact Kq.i (τ := σ) (d167 _) Kq.rfl
  · split
    · exact Kq.i (τ := (_, σ.2)) (Eq.refl _) (Kq.i (τ := (_, σ.2)) (d168 _) (Kq.i (τ := σ) (d167 _) Kq.rfl))
    · exact Kq.rfl
theorem kq9_tuB {f : Nat} {σ : Sg} : Kq I9 L9 σ (tuB σ f) := (Kq.i (τ := σ) (a := 159) (j := 19) (Eq.refl _) Kq.rfl).trans (Kq.l (Eq.refl _) Kq.rfl)
theorem kq9_sTu {n : Nat} {σ : Sg} : Kq I9 L9 σ (sTu n σ) := (kq9_tuA.trans kq9_tuB).trans (kq_sTu7.mono m79i m79l)
theorem kq9_all {ρ : Sg} {n : Nat} (o1 : CaOk (k3 ρ)) (o2 : SplOk (caT (k3 ρ))) : Kq I9 L9 (k3 ρ) (sTu n (splT (caT (k3 ρ)))) := ((kq9_caT o1).trans (kq9_splT o2)).trans kq9_sTu
theorem kn_17 {ρ : Sg} {n : Nat} (o1 : CaOk (k3 ρ)) (o2 : SplOk (caT (k3 ρ))) : (sTu n (splT (caT (k3 ρ)))).2 159 17 = ρ.2 159 17 := by
  rw [(kq9_all o1 o2).2 159 17 (Eq.refl _)]
  unfold k3; dsimp only; rw [u2_j (by decide)]
theorem kn_15 {ρ : Sg} {n : Nat} (o1 : CaOk (k3 ρ)) (o2 : SplOk (caT (k3 ρ))) : (sTu n (splT (caT (k3 ρ)))).1 159 15 = ρ.1 159 15 ∧ (sTu n (splT (caT (k3 ρ)))).1 159 25 = ρ.1 159 25 :=
  ⟨(kq9_all o1 o2).1 159 15 (Eq.refl _), (kq9_all o1 o2).1 159 25 (Eq.refl _)⟩
theorem kn_ok {σ : Sg} {A : Mx} (h : Am σ A) (hA : okM A) : KnOk σ ∧ Knows (sKn σ) A ∧ Begs (sKn σ) A := by
  obtain ⟨p1, p2, p3, p4, p5, p6, p7⟩ := kP_ok h hA
  have p8 := kP_19 σ
  rw [sKn_e]
  unfold KnOk
  generalize kP σ = ρ at *
  by_cases c3 : knd A = 3
  · have ht := knd_3.mp c3
    obtain ⟨t3, t2⟩ := psq_tr hA ht
    have hB := psq_ok hA
    have ap : Am ρ (psq A) := by unfold pkn at p7; rwa [if_neg (by rw [c3]; decide)] at p7
    have a3 : Am (k3 ρ) (psq A) := am_fr ⟨by unfold k3; dsimp only; rw [u2_j (by decide)], by unfold k3; dsimp only; rw [u2_j (by decide)], by unfold k3; dsimp only; rw [u2_j (by decide)], by unfold k3; dsimp only; rw [u2_j (by decide)]⟩ ap
    have r : rg (mtr A) := by have := hA.2; unfold bdM at this; unfold rg mtr; omega
    have e16 : (k3 ρ).2 159 16 = lI (mtr (psq A)) := by
      unfold k3
      dsimp only
      rw [u2_eq, p2, far_lI r]
      unfold psq
      by_cases c : mtr A < 0
      · rw [if_pos c, if_pos c, mtr_ng]
      · rw [if_neg c, if_neg c]
    obtain ⟨o1, w, C, am, cj, mt, mf⟩ := ca_ok a3 hB t3 t2 e16
    have wid : mnn A → mw w = A := fun hn => by
      have hps : psq A = A := by
        unfold psq
        rw [if_neg]
        unfold mtr
        unfold mnn at hn
        omega
      have e := ca_id a3 hB t3 t2 e16 (by rw [hps]; exact hn)
      rw [e] at am
      rw [hps] at a3
      obtain ⟨x1, x2, x3, x4⟩ := am
      obtain ⟨y1, y2, y3, y4⟩ := a3
      have bw : big (mw w) := word_big ⟨mt, mf⟩ (by rw [← cj.tr]; exact t2)
      have bA := bdM_big hA.2
      exact mx_ext ((lI_eq (sm_rg bw.1) (sm_rg bA.1)).mp (x1.symm.trans y1)) ((lI_eq (sm_rg bw.2.1) (sm_rg bA.2.1)).mp (x2.symm.trans y2)) ((lI_eq (sm_rg bw.2.2.1) (sm_rg bA.2.2.1)).mp (x3.symm.trans y3)) ((lI_eq (sm_rg bw.2.2.2) (sm_rg bA.2.2.2)).mp (x4.symm.trans y4))
    have bw : big (mw w) := word_big ⟨mt, mf⟩ (by rw [← cj.tr]; exact t2)
    have w0 : w ≠ [] := fun z => by rw [z] at mt; simp at mt
    obtain ⟨x, rs, ew, hp, hr0⟩ := ex_all w.length w (Nat.le_refl _) w0
    have h2 := word_mem_len ⟨mt, mf⟩ ew
    rw [ew] at am cj bw
    -- the merged row bounds the runs
    have bnd : rs.length ≤ 41 ∧ rs.sum ≤ 80000000 := by
      have hx : ∃ ah ws, Mrg x rs ah ws := by
        by_cases ho : rs.length % 2 = 1
        · obtain ⟨r0, t1, e1⟩ : ∃ r0 t1, rs = r0 :: t1 := by
            cases rs with
            | nil => exact absurd rfl hr0
            | cons a b => exact ⟨a, b, rfl⟩
          cases x with
          | true =>
            obtain ⟨r1, t2, e2⟩ : ∃ r1 t2, t1 = r1 :: t2 := by
              cases t1 with
              | nil => rw [e1] at h2; simp at h2
              | cons a b => exact ⟨a, b, rfl⟩
            have t20 : t2 ≠ [] := fun z => by rw [e1, e2, z] at ho; simp at ho
            obtain ⟨md, rl, e3⟩ := snoc_ex t20
            rw [e1, e2, e3] at hp ho ⊢
            exact ⟨_, _, mrg_3 hp (by simp at ho; omega)⟩
          | false =>
            have t10 : t1 ≠ [] := fun z => by rw [e1, z] at h2; simp at h2
            obtain ⟨md, rl, e3⟩ := snoc_ex t10
            rw [e1, e3] at hp ho ⊢
            exact ⟨_, _, mrg_4 hp (by simp at ho; omega)⟩
        · cases x with
          | true => exact ⟨_, _, mrg_1 hp hr0 (by omega)⟩
          | false =>
            obtain ⟨r0, t1, e1⟩ : ∃ r0 t1, rs = r0 :: t1 := by
              cases rs with
              | nil => exact absurd rfl hr0
              | cons a b => exact ⟨a, b, rfl⟩
            rw [e1] at hp ho ⊢
            exact ⟨_, _, mrg_2 hp (by omega)⟩
      obtain ⟨ah, ws, hm⟩ := hx
      obtain ⟨_, l1, l2⟩ := hm.wh cj t2
      refine ⟨by have := hm.2.2.2.2.2.1; omega, ?_⟩
      have s1 := sum_le ws l2
      have e1 := congrArg List.length hm.2.2.2.2.1
      rw [rtl_len, ex_len, ex_len] at e1
      omega
    have hb30 : ∀ r ∈ rs, r < 2 ^ 30 := fun r hr => by have := mem_sum rs r hr; omega
    obtain ⟨o2, sp⟩ := spl_ok hp am bw (by omega)
    obtain ⟨ah, f, ws, hm, hA'⟩ := tuA_ok sp hp h2 hb30
    obtain ⟨⟨D, cD⟩, l1, l2⟩ := hm.wh cj t2
    have hah : ah ≤ 80000000 := by
      have := hm.2.2.2.1
      rw [ex_len] at this
      omega
    have hw0 : 0 < ws.length := by
      have := hm.2.2.1
      cases ws with
      | nil => exact absurd rfl this
      | cons a b => simp
    obtain ⟨o3, t, ls, tn⟩ := tu_ok hA' hm.2.1 l2 hw0 l1 (by omega)
    have ek : kn3 ρ = rs.length := by unfold kn3; rw [sp.1, nI_clamp (by omega)]
    have ewh : whl A = rtl ws t := whl_eq c3 (wh_mk hm.1 hm.2.1 hm.2.2.1 cD ls)
    have tle : t ≤ ws.length := Nat.le_of_lt ls.2.1
    have hKE : KE ρ := fun _ => ⟨o1, o2, by rw [ek]; exact sp.1, by rw [ek]; exact h2, by rw [ek]; omega, by rw [ek]; exact o3⟩
    have eK : kE ρ = ((sTu rs.length (splT (caT (k3 ρ)))).1, u2 (sTu rs.length (splT (caT (k3 ρ)))).2 159 16 (ρ.2 159 16)) := by
      unfold kE
      rw [if_pos (p1.trans c3), ek]
    have hk17 : (sTu rs.length (splT (caT (k3 ρ)))).2 159 17 = ρ.2 159 17 := kn_17 o1 o2
    have hk15 : (sTu rs.length (splT (caT (k3 ρ)))).1 159 15 = ρ.1 159 15 ∧ (sTu rs.length (splT (caT (k3 ρ)))).1 159 25 = ρ.1 159 25 := kn_15 o1 o2
    refine ⟨hKE, ?_⟩
    generalize sTu rs.length (splT (caT (k3 ρ))) = μ at tn eK hk17 hk15
    obtain ⟨u1, u2', u3, u4, u5⟩ := tn
    refine ⟨?_, ?_⟩
    · rw [eK]
      refine ⟨hk15.1.trans p1, ?_, ?_, hk15.2.trans p6, ?_, ?_, ?_, ?_⟩
      · dsimp only; rw [u2_eq]; exact p2
      · dsimp only; rw [u2_j (by decide), hk17]; exact p3
      · rw [ewh, rtl_len]; exact u1
      · rw [ewh]; exact u2'
      · rw [if_pos c3, ewh, TM_rtl tle]; exact u3
      · dsimp only; rw [u2_j (by decide), ewh, sum_rtl]; exact u4
    · intro _ hn
      refine ⟨w, ah + (ws.take t).sum, wid hn, ?_, ?_, ?_⟩
      · cases w with
        | nil => exact absurd rfl w0
        | cons a b => simp
      · obtain ⟨u, v, e1, e2, e3, _⟩ := ex_rtl hm.1 ls.1 tle
        have hl : (ws.take t).sum = u.length := by rw [e3, ex_len]
        have h5 := hm.2.2.2.2.1
        have lw : (ex true ws).length = w.length := by rw [← h5, rtl_len, ew]
        rw [← ew] at h5
        have hah2 : ah ≤ w.length := by rw [ew]; exact hm.2.2.2.1
        have hlu : u.length ≤ w.length := by rw [← lw, e1, List.length_append]; omega
        rw [ewh, e2, hl, ← rtl_rtl hah2 hlu (by
          cases w with
          | nil => exact absurd rfl w0
          | cons a b => simp), h5, e1, rtl_app]
      · rw [eK]
        dsimp only
        rw [u2_j (by decide), ewh, TM_rtl tle, sum_rtl]
        exact u5
  · have hKE : KE ρ := fun z => absurd (p1.symm.trans z) c3
    have eK : kE ρ = ρ := kE_n (by rw [p1]; exact c3)
    rw [eK, Knows, whl_nil c3, if_neg c3]
    refine ⟨hKE, ⟨p1, p2, p3, p6, p8, ?_, p4, p5⟩, fun z => absurd z c3⟩
    intro i hi
    simp at hi
