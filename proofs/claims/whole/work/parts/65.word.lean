/-! The first run of a word, as the class takes it. -/
theorem fr_t {n : Nat} {v : List Bool} (h : v.head? ≠ some true) : (mw (List.replicate n true ++ v)).2.1 / (mw (List.replicate n true ++ v)).2.2.2 = n ∧ 1 ≤ (mw (List.replicate n true ++ v)).2.2.2 ∧ ((mw (List.replicate n true ++ v)).2.2.1 = 0 ∨ (1 ≤ (mw (List.replicate n true ++ v)).2.2.1 ∧ (n : Int) ≤ (mw (List.replicate n true ++ v)).1 / (mw (List.replicate n true ++ v)).2.2.1)) := by
  rw [mw_rep_t]
  have k := mw_nn v
  simp only
  have kk : (mw v).2.1 < (mw v).2.2.2 := by
    cases v with
    | nil => decide
    | cons x v =>
      cases x
      · have := mw_nn v
        rw [mw_f]
        simp only
        omega
      · exact absurd rfl h
  generalize mw v = P at *
  obtain ⟨p, q, r, s⟩ := P
  simp only at *
  refine ⟨?_, k.2.2.2, ?_⟩
  · rw [Int.add_mul_ediv_right _ _ (by omega), Int.ediv_eq_zero_of_lt (by omega) (by omega)]
    omega
  · by_cases h0 : r = 0
    · exact Or.inl h0
    · right
      refine ⟨by omega, ?_⟩
      rw [Int.add_mul_ediv_right _ _ h0]
      have := Int.ediv_nonneg (show 0 ≤ p by omega) (show 0 ≤ r by omega)
      omega
theorem fr_f {n : Nat} {v : List Bool} (h : v.head? ≠ some false) : (mw (List.replicate n false ++ v)).2.2.1 / (mw (List.replicate n false ++ v)).1 = n ∧ 1 ≤ (mw (List.replicate n false ++ v)).1 ∧ ((mw (List.replicate n false ++ v)).2.1 = 0 ∨ (1 ≤ (mw (List.replicate n false ++ v)).2.1 ∧ (n : Int) ≤ (mw (List.replicate n false ++ v)).2.2.2 / (mw (List.replicate n false ++ v)).2.1)) := by
  rw [mw_rep_f]
  have k := mw_nn v
  simp only
  have kk : (mw v).2.2.1 < (mw v).1 := by
    cases v with
    | nil => decide
    | cons x v =>
      cases x
      · exact absurd rfl h
      · have := mw_nn v
        rw [mw_t]
        simp only
        omega
  generalize mw v = P at *
  obtain ⟨p, q, r, s⟩ := P
  simp only at *
  refine ⟨?_, k.1, ?_⟩
  · rw [Int.add_mul_ediv_right _ _ (by omega), Int.ediv_eq_zero_of_lt (by omega) (by omega)]
    omega
  · by_cases h0 : q = 0
    · exact Or.inl h0
    · right
      refine ⟨by omega, ?_⟩
      rw [Int.add_mul_ediv_right _ _ h0]
      have := Int.ediv_nonneg (show 0 ≤ s by omega) (show 0 ≤ q by omega)
      omega
theorem tn_t (n : Nat) (v : List Bool) : mw (v ++ List.replicate n true) = cR (-n) (mw (List.replicate n true ++ v)) := by
  have e : mw (List.replicate n true) = (1, (n : Int), 0, 1) := by
    have := mw_rep_t n []
    rw [List.append_nil] at this
    rw [this]
    apply mx_ext <;> simp [mw, mo]
  rw [mw_app, e, mw_rep_t]
  apply mx_ext <;> simp only [mm, cR] <;> grind
theorem tn_f (n : Nat) (v : List Bool) : mw (v ++ List.replicate n false) = cL (-n) (mw (List.replicate n false ++ v)) := by
  have e : mw (List.replicate n false) = (1, 0, (n : Int), 1) := by
    have := mw_rep_f n []
    rw [List.append_nil] at this
    rw [this]
    apply mx_ext <;> simp [mw, mo]
  rw [mw_app, e, mw_rep_f]
  apply mx_ext <;> simp only [mm, cL] <;> grind
/-- a word begins with a run -/
theorem run_ex : ∀ (w : List Bool), w ≠ [] → ∃ x n v, w = List.replicate n x ++ v ∧ 1 ≤ n ∧ v.head? ≠ some x := by
  intro w
  induction w with
  | nil => intro h; exact absurd rfl h
  | cons x w ih =>
    intro _
    by_cases hw : w = []
    · exact ⟨x, 1, [], by rw [hw]; rfl, Nat.le_refl _, by simp⟩
    · obtain ⟨y, n, v, h1, h2, h3⟩ := ih hw
      by_cases hxy : y = x
      · subst hxy
        exact ⟨y, n + 1, v, by rw [h1]; rfl, by omega, h3⟩
      · refine ⟨x, 1, w, rfl, Nat.le_refl _, ?_⟩
        rw [h1, rep_hd h2]
        exact fun z => hxy (Option.some.inj z)
/-- numbers that fit, and none below 0 -/
def bnn (A : Mx) : Prop := mnn A ∧ big A
theorem bnn_w {w : List Bool} (h : big (mw w)) : bnn (mw w) := by
  have := mw_nn w
  exact ⟨⟨by omega, by omega, by omega, by omega⟩, h⟩
theorem at_bR {σ : Sg} {k p : Nat} {A : Mx} (h : At σ p A) (hb : big A) : rX9_beginsWithR k p σ = decide (A.2.2.1 ≤ A.1 ∧ A.2.2.2 ≤ A.2.1) := by
  obtain ⟨h1, h2, h3, h4⟩ := h
  obtain ⟨b1, b2, b3, b4⟩ := hb
  unfold rX9_beginsWithR
  rw [h1, h2, h3, h4]
  have e1 := lI_lt (sm_rg b1) (sm_rg b3)
  have e2 := lI_lt (sm_rg b2) (sm_rg b4)
  by_cases c1 : A.1 < A.2.2.1
  · rw [if_pos (e1.mpr c1)]; symm; rw [decide_eq_false_iff_not]; omega
  · rw [if_neg (fun z => c1 (e1.mp z))]
    by_cases c2 : A.2.1 < A.2.2.2
    · rw [if_pos (e2.mpr c2)]; symm; rw [decide_eq_false_iff_not]; omega
    · rw [if_neg (fun z => c2 (e2.mp z))]; symm; rw [decide_eq_true_iff]; omega
theorem bR_t {n : Nat} {v : List Bool} (hn : 1 ≤ n) : decide ((mw (List.replicate n true ++ v)).2.2.1 ≤ (mw (List.replicate n true ++ v)).1 ∧ (mw (List.replicate n true ++ v)).2.2.2 ≤ (mw (List.replicate n true ++ v)).2.1) = true := by
  obtain ⟨j, rfl⟩ : ∃ j, n = j + 1 := ⟨n - 1, by omega⟩
  rw [List.replicate_succ, List.cons_append, mw_t, decide_eq_true_iff]
  have := mw_nn (List.replicate j true ++ v)
  simp only
  omega
theorem bR_f {n : Nat} {v : List Bool} (hn : 1 ≤ n) : decide ((mw (List.replicate n false ++ v)).2.2.1 ≤ (mw (List.replicate n false ++ v)).1 ∧ (mw (List.replicate n false ++ v)).2.2.2 ≤ (mw (List.replicate n false ++ v)).2.1) = false := by
  obtain ⟨j, rfl⟩ : ∃ j, n = j + 1 := ⟨n - 1, by omega⟩
  rw [List.replicate_succ, List.cons_append, mw_f, decide_eq_false_iff_not]
  have := mw_nn (List.replicate j false ++ v)
  simp only
  omega
theorem min_lI {x y : Int} {σ : Sg} (hx : rg x) (hy : rg y) : rJ9_min_f86c9 (lI x) (lI y) σ = lI (if y < x then y else x) := by
  unfold rJ9_min_f86c9
  by_cases h : y < x
  · rw [if_pos ((lI_lt hy hx).mpr h), if_pos h]
  · rw [if_neg (fun z => h ((lI_lt hy hx).mp z)), if_neg h]
theorem ed_sm {x y : Int} (h : sm x) (h0 : 0 ≤ x) (hy : 1 ≤ y) : sm (x / y) := by
  have h1 := Int.ediv_nonneg h0 (show 0 ≤ y by omega)
  have h2 := Int.ediv_le_self y h0
  unfold sm at *
  omega
theorem max_lt {x : Int} (h : sm x) : lI x < 9223372036854775807 := by
  rw [Int64.lt_iff_toInt_lt, lI_to (sm_rg h)]
  have : (9223372036854775807 : Int64).toInt = 9223372036854775807 := by decide +kernel
  rw [this]
  unfold sm at h
  omega
theorem at_frt {σ : Sg} {k p n : Nat} {v : List Bool} (h : At σ p (mw (List.replicate n true ++ v))) (hb : big (mw (List.replicate n true ++ v))) (hv : v.head? ≠ some true) : rX9_firstRun k p true σ = lI n := by
  obtain ⟨f1, f2, f3⟩ := fr_t (n := n) hv
  have nn := mw_nn (List.replicate n true ++ v)
  obtain ⟨h1, h2, h3, h4⟩ := h
  obtain ⟨b1, b2, b3, b4⟩ := hb
  generalize mw (List.replicate n true ++ v) = A at *
  unfold rX9_firstRun
  rw [if_pos rfl, h1, h2, h3, h4, if_pos ((lI_0lt (sm_rg b4)).mpr (by omega)), if_pos ((lI_0lt (sm_rg b4)).mpr (by omega)), lI_divp (sm_rg b2) (sm_rg b4) nn.2.1, f1]
  have hn : sm (n : Int) := by rw [← f1]; exact ed_sm b2 nn.2.1 f2
  rcases f3 with f3 | ⟨f3, f4⟩
  · rw [f3, if_neg (by rw [lI_0lt rg_0]; omega)]
    unfold rJ9_min_f86c9
    rw [if_pos (max_lt hn)]
  · rw [if_pos ((lI_0lt (sm_rg b3)).mpr (by omega)), lI_divp (sm_rg b1) (sm_rg b3) (by omega), min_lI (sm_rg (ed_sm b1 (by omega) f3)) (sm_rg hn)]
    by_cases hh : (n : Int) < A.1 / A.2.2.1
    · rw [if_pos hh]
    · rw [if_neg hh, show A.1 / A.2.2.1 = (n : Int) by omega]
theorem at_frf {σ : Sg} {k p n : Nat} {v : List Bool} (h : At σ p (mw (List.replicate n false ++ v))) (hb : big (mw (List.replicate n false ++ v))) (hv : v.head? ≠ some false) : rX9_firstRun k p false σ = lI n := by
  obtain ⟨f1, f2, f3⟩ := fr_f (n := n) hv
  have nn := mw_nn (List.replicate n false ++ v)
  obtain ⟨h1, h2, h3, h4⟩ := h
  obtain ⟨b1, b2, b3, b4⟩ := hb
  generalize mw (List.replicate n false ++ v) = A at *
  unfold rX9_firstRun
  rw [if_neg (by decide), h1, h2, h3, h4, if_pos ((lI_0lt (sm_rg b1)).mpr (by omega)), lI_divp (sm_rg b3) (sm_rg b1) nn.2.2.1, f1]
  have hn : sm (n : Int) := by rw [← f1]; exact ed_sm b3 nn.2.2.1 f2
  rcases f3 with f3 | ⟨f3, f4⟩
  · rw [f3, if_neg (by rw [lI_0lt rg_0]; omega)]
  · rw [if_pos ((lI_0lt (sm_rg b2)).mpr (by omega)), lI_divp (sm_rg b4) (sm_rg b2) (by omega), min_lI (sm_rg hn) (sm_rg (ed_sm b4 (by omega) f3))]
    by_cases hh : A.2.2.2 / A.2.1 < (n : Int)
    · omega
    · rw [if_neg hh]
theorem at_fr {σ : Sg} {k p n : Nat} {x : Bool} {v : List Bool} (h : At σ p (mw (List.replicate n x ++ v))) (hb : big (mw (List.replicate n x ++ v))) (hn : 1 ≤ n) (hv : v.head? ≠ some x) : rX9_beginsWithR k p σ = x ∧ rX9_firstRun k p x σ = lI n := by
  rw [at_bR h hb]
  cases x
  · exact ⟨bR_f hn, at_frf h hb hv⟩
  · exact ⟨bR_t hn, at_frt h hb hv⟩
/-- the first run is left out -/
theorem at_drop {σ : Sg} {k p n : Nat} {x : Bool} {v : List Bool} (h : At σ p (mw (List.replicate n x ++ v))) (hb : big (mw (List.replicate n x ++ v))) (hn : 1 ≤ n) (hv : v.head? ≠ some x) : rX9_dropFirstRun k p σ = lI n ∧ At (sX9_dropFirstRun k p σ) p (mw v) := by
  obtain ⟨q1, q2⟩ := at_fr (k := k) h hb hn hv
  unfold rX9_dropFirstRun sX9_dropFirstRun
  rw [q1, q2]
  obtain ⟨h1, h2, h3, h4⟩ := h
  cases x
  · rw [mw_rep_f] at *
    refine ⟨by simp, ?_⟩
    rw [if_neg (by decide)]
    refine ⟨?_, ?_, ?_, ?_⟩ <;> simp [u2, h1, h2, h3, h4, lI_sub, lI_mul] <;> congr 1 <;> omega
  · rw [mw_rep_t] at *
    refine ⟨by simp, ?_⟩
    rw [if_pos rfl]
    refine ⟨?_, ?_, ?_, ?_⟩ <;> simp [u2, h1, h2, h3, h4, lI_sub, lI_mul] <;> congr 1 <;> omega
/-- the first run comes to the end -/
theorem at_turn {σ : Sg} {k p n : Nat} {x : Bool} {v : List Bool} (h : At σ p (mw (List.replicate n x ++ v))) (hb : big (mw (List.replicate n x ++ v))) (hn : 1 ≤ n) (hv : v.head? ≠ some x) : rX9_turnFirstRun k p σ = lI n ∧ At (sX9_turnFirstRun k p σ) p (mw (v ++ List.replicate n x)) := by
  obtain ⟨q1, q2⟩ := at_fr (k := k) h hb hn hv
  unfold rX9_turnFirstRun sX9_turnFirstRun
  rw [q1, q2]
  cases x
  · refine ⟨by simp, ?_⟩
    rw [if_neg (by decide), tn_f, lI_neg]
    exact at_cL h _
  · refine ⟨by simp, ?_⟩
    rw [if_pos rfl, tn_t, lI_neg]
    exact at_cR h _
