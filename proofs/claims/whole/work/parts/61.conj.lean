/-! Products that are carried over into one another are turned into one another. -/
def dfn (x y : Int) : Prop := (0 ≤ x ∧ 0 ≤ y) ∨ (x ≤ 0 ∧ y ≤ 0)
theorem df_l {x y : Int} (h : dfn x y) : dfn (x + y) y := by unfold dfn at *; omega
theorem df_r {x y : Int} (h : dfn x y) : dfn x (x + y) := by unfold dfn at *; omega
theorem df_l2 (x y : Int) : dfn (x + y) y ∨ (x + y).natAbs + y.natAbs + 1 ≤ x.natAbs + y.natAbs := by unfold dfn; omega
theorem df_r2 (x y : Int) : dfn x (x + y) ∨ x.natAbs + (x + y).natAbs + 1 ≤ x.natAbs + y.natAbs := by unfold dfn; omega
theorem ml_tE (E : Mx) : mm (ml true) E = (E.1 + E.2.2.1, E.2.1 + E.2.2.2, E.2.2.1, E.2.2.2) := by apply mx_ext <;> simp [mm, ml]
theorem ml_fE (E : Mx) : mm (ml false) E = (E.1, E.2.1, E.1 + E.2.2.1, E.2.1 + E.2.2.2) := by apply mx_ext <;> simp [mm, ml]
theorem ml_Et (E : Mx) : mm E (ml true) = (E.1, E.1 + E.2.1, E.2.2.1, E.2.2.1 + E.2.2.2) := by apply mx_ext <;> simp [mm, ml]
theorem ml_Ef (E : Mx) : mm E (ml false) = (E.1 + E.2.1, E.2.1, E.2.2.1 + E.2.2.2, E.2.2.2) := by apply mx_ext <;> simp [mm, ml]
theorem mw_cE (x : Bool) (w : List Bool) (C : Mx) : mm (mw (x :: w)) C = mm (ml x) (mm (mw w) C) := by simp only [mw, mm_assoc]
theorem mw_Ec (x : Bool) (w : List Bool) (C : Mx) : mm C (mw (x :: w)) = mm (mm C (ml x)) (mw w) := by simp only [mw, mm_assoc]
theorem col_go (w : List Bool) (C : Mx) : (dfn (mm (mw w) C).1 (mm (mw w) C).2.2.1 ∨ (mm (mw w) C).1.natAbs + (mm (mw w) C).2.2.1.natAbs + w.length ≤ C.1.natAbs + C.2.2.1.natAbs) ∧ (dfn (mm (mw w) C).2.1 (mm (mw w) C).2.2.2 ∨ (mm (mw w) C).2.1.natAbs + (mm (mw w) C).2.2.2.natAbs + w.length ≤ C.2.1.natAbs + C.2.2.2.natAbs) := by
  induction w with
  | nil =>
    rw [show mw [] = mo from rfl, mo_m]
    exact ⟨Or.inr (by simp), Or.inr (by simp)⟩
  | cons x w ih =>
    obtain ⟨h1, h2⟩ := ih
    rw [mw_cE]
    generalize mm (mw w) C = E at *
    have hl : (x :: w).length = w.length + 1 := rfl
    rw [hl]
    cases x
    · rw [ml_fE]
      refine ⟨?_, ?_⟩
      · rcases h1 with h1 | h1
        · exact Or.inl (df_r h1)
        · rcases df_r2 E.1 E.2.2.1 with h | h
          · exact Or.inl h
          · exact Or.inr (by simp only; omega)
      · rcases h2 with h1 | h1
        · exact Or.inl (df_r h1)
        · rcases df_r2 E.2.1 E.2.2.2 with h | h
          · exact Or.inl h
          · exact Or.inr (by simp only; omega)
    · rw [ml_tE]
      refine ⟨?_, ?_⟩
      · rcases h1 with h1 | h1
        · exact Or.inl (df_l h1)
        · rcases df_l2 E.1 E.2.2.1 with h | h
          · exact Or.inl h
          · exact Or.inr (by simp only; omega)
      · rcases h2 with h1 | h1
        · exact Or.inl (df_l h1)
        · rcases df_l2 E.2.1 E.2.2.2 with h | h
          · exact Or.inl h
          · exact Or.inr (by simp only; omega)
theorem row_df (w : List Bool) : ∀ (C : Mx), (dfn C.1 C.2.1 → dfn (mm C (mw w)).1 (mm C (mw w)).2.1) ∧ (dfn C.2.2.1 C.2.2.2 → dfn (mm C (mw w)).2.2.1 (mm C (mw w)).2.2.2) := by
  induction w with
  | nil =>
    intro C
    rw [show mw [] = mo from rfl, mm_o]
    exact ⟨id, id⟩
  | cons x w ih =>
    intro C
    rw [mw_Ec]
    obtain ⟨h1, h2⟩ := ih (mm C (ml x))
    cases x
    · rw [ml_Ef] at *
      exact ⟨fun q => h1 (df_l q), fun q => h2 (df_l q)⟩
    · rw [ml_Et] at *
      exact ⟨fun q => h1 (df_r q), fun q => h2 (df_r q)⟩
theorem row_go (w : List Bool) : ∀ (C : Mx), (dfn (mm C (mw w)).1 (mm C (mw w)).2.1 ∨ (mm C (mw w)).1.natAbs + (mm C (mw w)).2.1.natAbs + w.length ≤ C.1.natAbs + C.2.1.natAbs) ∧ (dfn (mm C (mw w)).2.2.1 (mm C (mw w)).2.2.2 ∨ (mm C (mw w)).2.2.1.natAbs + (mm C (mw w)).2.2.2.natAbs + w.length ≤ C.2.2.1.natAbs + C.2.2.2.natAbs) := by
  induction w with
  | nil =>
    intro C
    rw [show mw [] = mo from rfl, mm_o]
    exact ⟨Or.inr (by simp), Or.inr (by simp)⟩
  | cons x w ih =>
    intro C
    rw [mw_Ec]
    obtain ⟨h1, h2⟩ := ih (mm C (ml x))
    obtain ⟨k1, k2⟩ := row_df w (mm C (ml x))
    have hl : (x :: w).length = w.length + 1 := rfl
    rw [hl]
    generalize hF : mm (mm C (ml x)) (mw w) = F at *
    cases x
    · rw [ml_Ef] at h1 h2 k1 k2
      simp only at h1 h2 k1 k2
      refine ⟨?_, ?_⟩
      · rcases df_l2 C.1 C.2.1 with h | h
        · exact Or.inl (k1 h)
        · rcases h1 with h1 | h1
          · exact Or.inl h1
          · exact Or.inr (by omega)
      · rcases df_l2 C.2.2.1 C.2.2.2 with h | h
        · exact Or.inl (k2 h)
        · rcases h2 with h1 | h1
          · exact Or.inl h1
          · exact Or.inr (by omega)
    · rw [ml_Et] at h1 h2 k1 k2
      simp only at h1 h2 k1 k2
      refine ⟨?_, ?_⟩
      · rcases df_r2 C.1 C.2.1 with h | h
        · exact Or.inl (k1 h)
        · rcases h1 with h1 | h1
          · exact Or.inl h1
          · exact Or.inr (by omega)
      · rcases df_r2 C.2.2.1 C.2.2.2 with h | h
        · exact Or.inl (k2 h)
        · rcases h2 with h1 | h1
          · exact Or.inl h1
          · exact Or.inr (by omega)
/-- a word n times -/
def wp (u : List Bool) : Nat → List Bool
  | 0 => []
  | n + 1 => u ++ wp u n
theorem wp_len {u : List Bool} (h : u ≠ []) (n : Nat) : n ≤ (wp u n).length := by
  induction n with
  | zero => exact Nat.zero_le _
  | succ n ih =>
    have : 0 < u.length := List.length_pos_iff.mpr h
    simp only [wp, List.length_append]
    omega
theorem wp_comm (u : List Bool) (n : Nat) : u ++ wp u n = wp u n ++ u := by
  induction n with
  | zero => simp [wp]
  | succ n ih => simp only [wp]; rw [List.append_assoc, ih]
theorem wp_cj {C : Mx} {u v : List Bool} (h : mm C (mw u) = mm (mw v) C) (n : Nat) : mm C (mw (wp u n)) = mm (mw (wp v n)) C := by
  induction n with
  | zero => simp only [wp]; rw [show mw [] = mo from rfl, mm_o, mo_m]
  | succ n ih =>
    simp only [wp]
    rw [mw_app, mw_app, ← mm_assoc, h, mm_assoc, ih, mm_assoc]
theorem df_all {a b c d : Int} (h1 : dfn a b) (h2 : dfn c d) (h3 : dfn a c) (h4 : dfn b d) (hd : a * d - b * c = 1) : (0 ≤ a ∧ 0 ≤ b ∧ 0 ≤ c ∧ 0 ≤ d) ∨ (a ≤ 0 ∧ b ≤ 0 ∧ c ≤ 0 ∧ d ≤ 0) ∨ (a = 0 ∧ d = 0) := by
  unfold dfn at *
  have z1 : ¬ (a = 0 ∧ b = 0) := fun ⟨p, q⟩ => by subst p; subst q; simp at hd
  have z2 : ¬ (c = 0 ∧ d = 0) := fun ⟨p, q⟩ => by subst p; subst q; simp at hd
  have z3 : b = 0 → c = 0 → ¬ (0 ≤ a ∧ d ≤ 0) := fun p q ⟨r, s⟩ => by
    subst p; subst q
    have := Int.mul_nonneg r (show 0 ≤ -d by omega)
    rw [Int.mul_neg] at this
    simp at hd
    omega
  have z4 : b = 0 → c = 0 → ¬ (a ≤ 0 ∧ 0 ≤ d) := fun p q ⟨r, s⟩ => by
    subst p; subst q
    have := Int.mul_nonneg (show 0 ≤ -a by omega) s
    rw [Int.neg_mul] at this
    simp at hd
    omega
  omega
theorem rot_z : ∀ (n : Nat) (z u v : List Bool), z.length ≤ n → v ≠ [] → z ++ u = v ++ z → ∃ x y, u = y ++ x ∧ v = x ++ y := by
  intro n
  induction n with
  | zero =>
    intro z u v hz hv h
    have : z = [] := List.length_eq_zero_iff.mp (by omega)
    subst this
    simp at h
    exact ⟨[], v, by simp [h], by simp⟩
  | succ n ih =>
    intro z u v hz hv h
    rcases List.append_eq_append_iff.mp h with ⟨as, h1, h2⟩ | ⟨bs, h1, h2⟩
    · exact ⟨z, as, h2, h1⟩
    · have hl : 0 < v.length := List.length_pos_iff.mpr hv
      refine ih bs u v ?_ hv ?_
      · have := congrArg List.length h1
        rw [List.length_append] at this
        omega
      · rw [← h2, ← h1]
theorem cj_rot {C : Mx} {u v : List Bool} (hC : mdt C = 1) (hu : 1 ≤ (mw u).2.1 ∧ 1 ≤ (mw u).2.2.1) (hv : v ≠ []) (h : mm C (mw u) = mm (mw v) C) : ∃ x y, u = y ++ x ∧ v = x ++ y := by
  have hu0 : u ≠ [] := by
    intro e
    rw [e] at hu
    exact absurd hu.1 (by decide)
  have main : ∀ N : Nat, C.1.natAbs + C.2.1.natAbs + C.2.2.1.natAbs + C.2.2.2.natAbs < N → (dfn (mm C (mw (wp u N))).1 (mm C (mw (wp u N))).2.1 ∧ dfn (mm C (mw (wp u N))).2.2.1 (mm C (mw (wp u N))).2.2.2) ∧ dfn (mm C (mw (wp u N))).1 (mm C (mw (wp u N))).2.2.1 ∧ dfn (mm C (mw (wp u N))).2.1 (mm C (mw (wp u N))).2.2.2 := by
    intro N hN
    have l1 := wp_len hu0 N
    have l2 := wp_len hv N
    refine ⟨?_, ?_⟩
    · obtain ⟨h1, h2⟩ := row_go (wp u N) C
      exact ⟨h1.resolve_right (by omega), h2.resolve_right (by omega)⟩
    · obtain ⟨h1, h2⟩ := col_go (wp v N) C
      rw [wp_cj h N]
      exact ⟨h1.resolve_right (by omega), h2.resolve_right (by omega)⟩
  generalize hN : C.1.natAbs + C.2.1.natAbs + C.2.2.1.natAbs + C.2.2.2.natAbs + 1 = N at *
  have m1 := main N (by omega)
  have m2 := main (N + 1) (by omega)
  have e2 : mm C (mw (wp u (N + 1))) = mm (mm C (mw (wp u N))) (mw u) := by
    simp only [wp]
    rw [wp_comm, mw_app, mm_assoc]
  have e3 : mm (mm C (mw (wp u N))) (mw u) = mm (mw v) (mm C (mw (wp u N))) := by
    rw [← e2, wp_cj h (N + 1), wp_cj h N]
    simp only [wp]
    rw [mw_app, mm_assoc]
  rw [e2] at m2
  have hd : mdt (mm C (mw (wp u N))) = 1 := by rw [mdt_mm, hC, mdt_w]; rfl
  generalize mm C (mw (wp u N)) = E at *
  have fin : ∀ F : Mx, mnn F → mdt F = 1 → mm F (mw u) = mm (mw v) F → ∃ x y, u = y ++ x ∧ v = x ++ y := by
    intro F h1 h2 h3
    obtain ⟨z, hz⟩ := mw_ex h1 h2
    rw [← hz, ← mw_app, ← mw_app] at h3
    exact rot_z z.length z u v (Nat.le_refl _) hv (mw_inj h3)
  rcases df_all m1.1.1 m1.1.2 m1.2.1 m1.2.2 hd with h1 | h1 | h1
  · exact fin E h1 hd e3
  · exact fin (mng E) ⟨by simp only [mng]; omega, by simp only [mng]; omega, by simp only [mng]; omega, by simp only [mng]; omega⟩ (by rw [mdt_ng]; exact hd) (by rw [mm_ng, mm_ng2, e3])
  · exfalso
    obtain ⟨a, b, c, d⟩ := E
    obtain ⟨ha, hdd⟩ := h1
    simp only at ha hdd
    subst ha; subst hdd
    have k := mw_nn u
    generalize mw u = P at *
    obtain ⟨p, q, r, s⟩ := P
    simp only [mm, mdt] at *
    have hb : b = 1 ∨ b = -1 := by
      have : b * c = -1 := by omega
      have hdv : b ∣ 1 := ⟨-c, by rw [Int.mul_neg]; omega⟩
      have h5 := Int.le_of_dvd (by decide) hdv
      have hdv2 : -b ∣ 1 := Int.neg_dvd.mpr hdv
      have h6 := Int.le_of_dvd (by decide) hdv2
      have h7 : b ≠ 0 := fun z => by rw [z] at this; simp at this
      omega
    rcases hb with hb | hb
    · subst hb
      have hc : c = -1 := by omega
      subst hc
      have := m2.2.1
      unfold dfn at this
      omega
    · subst hb
      have hc : c = 1 := by omega
      subst hc
      have := m2.2.1
      unfold dfn at this
      omega
