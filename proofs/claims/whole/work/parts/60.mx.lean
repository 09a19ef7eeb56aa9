/-! Squares as mathematics: four whole numbers; words of R (true) and L (false). -/
abbrev Mx : Type := Int × Int × Int × Int
def mm (A B : Mx) : Mx := (A.1 * B.1 + A.2.1 * B.2.2.1, A.1 * B.2.1 + A.2.1 * B.2.2.2, A.2.2.1 * B.1 + A.2.2.2 * B.2.2.1, A.2.2.1 * B.2.1 + A.2.2.2 * B.2.2.2)
def mo : Mx := (1, 0, 0, 1)
def mdt (A : Mx) : Int := A.1 * A.2.2.2 - A.2.1 * A.2.2.1
def mtr (A : Mx) : Int := A.1 + A.2.2.2
def mng (A : Mx) : Mx := (-A.1, -A.2.1, -A.2.2.1, -A.2.2.2)
def mnn (A : Mx) : Prop := 0 ≤ A.1 ∧ 0 ≤ A.2.1 ∧ 0 ≤ A.2.2.1 ∧ 0 ≤ A.2.2.2
theorem mx_ext {A B : Mx} (h1 : A.1 = B.1) (h2 : A.2.1 = B.2.1) (h3 : A.2.2.1 = B.2.2.1) (h4 : A.2.2.2 = B.2.2.2) : A = B := by
  obtain ⟨a, b, c, d⟩ := A
  obtain ⟨e, f, g, h⟩ := B
  simp only at h1 h2 h3 h4
  rw [h1, h2, h3, h4]
theorem mm_assoc (A B C : Mx) : mm (mm A B) C = mm A (mm B C) := by
  apply mx_ext <;> simp only [mm] <;> grind
theorem mdt_mm (A B : Mx) : mdt (mm A B) = mdt A * mdt B := by
  simp only [mm, mdt]; grind
theorem mm_o (A : Mx) : mm A mo = A := by
  apply mx_ext <;> simp [mm, mo]
theorem mo_m (A : Mx) : mm mo A = A := by
  apply mx_ext <;> simp [mm, mo]
theorem mm_ng (A B : Mx) : mm (mng A) B = mng (mm A B) := by
  apply mx_ext <;> simp only [mm, mng] <;> grind
theorem mm_ng2 (A B : Mx) : mm A (mng B) = mng (mm A B) := by
  apply mx_ext <;> simp only [mm, mng] <;> grind
theorem mdt_ng (A : Mx) : mdt (mng A) = mdt A := by
  simp only [mdt, mng]; grind
theorem mng_ng (A : Mx) : mng (mng A) = A := by
  apply mx_ext <;> simp [mng]
/-- a letter, a word -/
def ml (x : Bool) : Mx := if x then (1, 1, 0, 1) else (1, 0, 1, 1)
def mw : List Bool → Mx
  | [] => mo
  | x :: w => mm (ml x) (mw w)
theorem mw_t (w : List Bool) : mw (true :: w) = ((mw w).1 + (mw w).2.2.1, (mw w).2.1 + (mw w).2.2.2, (mw w).2.2.1, (mw w).2.2.2) := by
  apply mx_ext <;> simp [mw, mm, ml]
theorem mw_f (w : List Bool) : mw (false :: w) = ((mw w).1, (mw w).2.1, (mw w).1 + (mw w).2.2.1, (mw w).2.1 + (mw w).2.2.2) := by
  apply mx_ext <;> simp [mw, mm, ml]
theorem mw_app (u v : List Bool) : mw (u ++ v) = mm (mw u) (mw v) := by
  induction u with
  | nil => simp [mw, mo_m]
  | cons x u ih => simp only [List.cons_append, mw, ih, mm_assoc]
theorem mdt_w (w : List Bool) : mdt (mw w) = 1 := by
  induction w with
  | nil => rfl
  | cons x u ih =>
    simp only [mw, mdt_mm, ih]
    cases x <;> rfl
theorem mw_nn (w : List Bool) : 1 ≤ (mw w).1 ∧ 0 ≤ (mw w).2.1 ∧ 0 ≤ (mw w).2.2.1 ∧ 1 ≤ (mw w).2.2.2 := by
  induction w with
  | nil => decide
  | cons x u ih =>
    cases x
    · rw [mw_f]; simp only; omega
    · rw [mw_t]; simp only; omega
theorem mw_inj : ∀ {u v : List Bool}, mw u = mw v → u = v := by
  intro u
  induction u with
  | nil =>
    intro v h
    cases v with
    | nil => rfl
    | cons x v =>
      exfalso
      have h0 := mw_nn v
      cases x
      · rw [mw_f] at h
        have h1 := congrArg (fun A : Mx => A.1) h
        have h3 := congrArg (fun A : Mx => A.2.2.1) h
        simp only [mw, mo] at h1 h3
        omega
      · rw [mw_t] at h
        have h1 := congrArg (fun A : Mx => A.2.1) h
        have h3 := congrArg (fun A : Mx => A.2.2.2) h
        simp only [mw, mo] at h1 h3
        omega
  | cons x u ih =>
    intro v h
    have g0 := mw_nn u
    cases v with
    | nil =>
      exfalso
      cases x
      · rw [mw_f] at h
        have h1 := congrArg (fun A : Mx => A.1) h
        have h3 := congrArg (fun A : Mx => A.2.2.1) h
        simp only [mw, mo] at h1 h3
        omega
      · rw [mw_t] at h
        have h1 := congrArg (fun A : Mx => A.2.1) h
        have h3 := congrArg (fun A : Mx => A.2.2.2) h
        simp only [mw, mo] at h1 h3
        omega
    | cons y v =>
      have h0 := mw_nn v
      have h1 := congrArg (fun A : Mx => A.1) h
      have h2 := congrArg (fun A : Mx => A.2.1) h
      have h3 := congrArg (fun A : Mx => A.2.2.1) h
      have h4 := congrArg (fun A : Mx => A.2.2.2) h
      cases x <;> cases y <;> simp only [mw_t, mw_f] at h1 h2 h3 h4
      · rw [ih (v := v) (mx_ext (by omega) (by omega) (by omega) (by omega))]
      · exfalso; omega
      · exfalso; omega
      · rw [ih (v := v) (mx_ext (by omega) (by omega) (by omega) (by omega))]
theorem mw_surj : ∀ (n : Nat) (A : Mx), mnn A → mdt A = 1 → A.1 + A.2.1 + A.2.2.1 + A.2.2.2 ≤ n → ∃ w, mw w = A := by
  intro n
  induction n with
  | zero =>
    intro A hn hd hs
    exfalso
    obtain ⟨a, b, c, d⟩ := A
    simp only [mnn, mdt] at hn hd hs
    have h1 : a = 0 := by omega
    have h2 : b = 0 := by omega
    subst h1 h2
    simp at hd
  | succ n ih =>
    intro A hn hd hs
    obtain ⟨a, b, c, d⟩ := A
    simp only [mnn, mdt] at hn hd hs
    by_cases h1 : c ≤ a ∧ d ≤ b
    · by_cases h0 : c = 0 ∧ d = 0
      · exfalso
        obtain ⟨rfl, rfl⟩ := h0
        simp at hd
      · obtain ⟨w, hw⟩ := ih (a - c, b - d, c, d) (by simp only [mnn]; omega) (by simp only [mdt]; grind) (by simp only; omega)
        refine ⟨true :: w, ?_⟩
        rw [mw_t, hw]
        apply mx_ext <;> simp only <;> omega
    · by_cases h2 : a ≤ c ∧ b ≤ d
      · by_cases h0 : a = 0 ∧ b = 0
        · exfalso
          obtain ⟨rfl, rfl⟩ := h0
          simp at hd
        · obtain ⟨w, hw⟩ := ih (a, b, c - a, d - b) (by simp only [mnn]; omega) (by simp only [mdt]; grind) (by simp only; omega)
          refine ⟨false :: w, ?_⟩
          rw [mw_f, hw]
          apply mx_ext <;> simp only <;> omega
      · by_cases h3 : c < a
        · have h4 : b < d := by omega
          have e1 : (c + 1) * (b + 1) ≤ a * d := Int.mul_le_mul (by omega) (by omega) (by omega) (by omega)
          have e2 : (c + 1) * (b + 1) = b * c + b + c + 1 := by grind
          have hb : b = 0 := by omega
          have hc : c = 0 := by omega
          subst hb hc
          have ha : a = 1 := by
            have : a * d = 1 := by omega
            have e3 : a ≤ a * d := by
              have := Int.mul_le_mul_of_nonneg_left (show 1 ≤ d by omega) (show 0 ≤ a by omega)
              omega
            omega
          have hd1 : d = 1 := by subst ha; omega
          refine ⟨[], ?_⟩
          rw [ha, hd1]; rfl
        · exfalso
          have h4 : d < b := by omega
          have h5 : a ≤ c := by omega
          have e1 : a * d ≤ c * b := Int.mul_le_mul h5 (by omega) (by omega) (by omega)
          have e2 : c * b = b * c := Int.mul_comm _ _
          omega
theorem mw_ex {A : Mx} (h : mnn A) (hd : mdt A = 1) : ∃ w, mw w = A := mw_surj (A.1 + A.2.1 + A.2.2.1 + A.2.2.2).toNat A h hd (by omega)
