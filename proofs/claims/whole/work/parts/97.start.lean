/-! The start of both. -/
noncomputable section
def z0 : Sg := (fun _ _ => 0, fun _ _ => 0)
def s0 : Sg := (u2 (u2 z0.1 45 2 (-1)) 159 8 (-1), z0.2)
theorem z0_f : Zf z0 0 := fun _ _ => ⟨fun _ => rfl, fun _ => rfl⟩
theorem z0_160 : Zf (u2 z0.1 45 2 (-1), z0.2) 159 := (Zf_u (z0_f.le (by omega))).le (by omega)
theorem s0_1 {a j : Nat} (h : a ≠ 45 ∨ j ≠ 2) (h2 : a ≠ 159 ∨ j ≠ 8) : s0.1 a j = 0 := by
  show u2 (u2 z0.1 45 2 (-1)) 159 8 (-1) a j = 0
  unfold u2
  rw [if_neg (by omega), if_neg (by omega)]
  rfl
theorem s0_2 {a j : Nat} : s0.2 a j = 0 := rfl
theorem s0_sh {k c : Nat} (h : k ≠ 45 ∧ k ≠ 159) : ShC s0 k c [] := ⟨s0_1 (by omega) (by omega), ⟨Nat.zero_le _, fun i hi => absurd hi (by simp)⟩, fun i hi => absurd hi (by simp)⟩
theorem s0_sz {k : Nat} (h : k ≠ 45 ∧ k ≠ 159) : SzOk s0 k := by
  unfold SzOk sz
  rw [s0_1 (by omega) (by omega)]
  exact ⟨rfl, by decide⟩
theorem s0_w {k : Nat} (h : k ≠ 45 ∧ k ≠ 159) : WOk s0 k := by
  unfold WOk cnt stt
  rw [s0_1 (by omega) (by omega), s0_1 (by omega) (by omega)]
  exact ⟨rfl, by decide, rfl, by decide⟩
theorem s0_k {k s h r : Nat} (hh : h ≠ 45 ∧ h ≠ 159) : KinC s0 k s h r := Or.inl ⟨⟨rfl, rfl, rfl, rfl⟩, s0_w hh⟩
theorem s0_rel : Rel s0 := by
  refine ⟨([], [], fun _ => none, [], -1, [], 0), ⟨0, s0_sh (by omega), ⟨by decide, s0_1 (by omega) (by omega), s0_1 (by omega) (by omega), by decide, fun j hj => s0_sz (by omega), fun e he => absurd he (by simp)⟩, ?_, ?_, ?_, ?_, ?_⟩, ?_⟩
  · exact fun i hi => ⟨s0_sz (by omega), fun _ => s0_1 (by omega) (by omega), fun p hp => (nomatch hp)⟩
  · exact ⟨s0_1 (by omega) (by omega), by decide, fun i hi => absurd hi (by simp), rfl⟩
  · exact ⟨s0_1 (by omega) (by omega), by decide, fun i hi => absurd hi (by simp)⟩
  · exact ⟨s0_1 (by omega) (by omega), by decide⟩
  · exact ⟨fun s hs => s0_k (by omega), s0_k (by omega)⟩
  · refine ⟨⟨s0_1 (by omega) (by omega), by decide, fun i hi => absurd hi (by simp)⟩, ⟨s0_1 (by omega) (by omega), by decide, fun e he => absurd he (by simp)⟩, ?_, ?_, ?_, s0_1 (by omega) (by omega)⟩
    · exact fun i hi => ⟨fun _ => s0_1 (by omega) (by omega), fun p hp => (nomatch hp)⟩
    · exact ⟨s0_1 (by omega) (by omega), fun i hi => absurd hi (by simp), rfl⟩
    · exact ⟨s0_1 (by omega) (by omega), fun i hi => absurd hi (by simp)⟩
end
