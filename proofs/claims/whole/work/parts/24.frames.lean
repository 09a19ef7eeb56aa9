/-! what the methods leave as it was -/
theorem u2k {α : Type} {f : Nat → Nat → α} {k j a : Nat} {v : α} (h : a ≠ k) : u2 f k j v a = f a := funext fun _ => u2_k h
theorem set_2 {k a : Nat} {x y z w : Int64} {σ : Sg} (h : a ≠ k) : (sX6_set k x y z w σ).2 a = σ.2 a := by simp only [sX6_set, u2k h]
theorem copy_2 {k i a : Nat} {σ : Sg} (h : a ≠ k) : (sX6_copyFrom k i σ).2 a = σ.2 a := by simp only [sX6_copyFrom, u2k h]
theorem cbr_2 {k a : Nat} {x : Int64} {σ : Sg} (h : a ≠ k) : (sX6_carryByR k x σ).2 a = σ.2 a := by simp only [sX6_carryByR, u2k h]
theorem cbl_2 {k a : Nat} {x : Int64} {σ : Sg} (h : a ≠ k) : (sX6_carryByL k x σ).2 a = σ.2 a := by simp only [sX6_carryByL, u2k h]
theorem cbs_2 {k a : Nat} {σ : Sg} (h : a ≠ k) : (sX6_carryByS k σ).2 a = σ.2 a := by simp only [sX6_carryByS, u2k h]
theorem cpS_1 (k : Nat) (σ : Sg) : (cpS k σ).1 = σ.1 := by unfold cpS; split <;> rfl
theorem cpS_2 {k a : Nat} {σ : Sg} (h : a ≠ k) : (cpS k σ).2 a = σ.2 a := by
  unfold cpS
  split
  · exact cbr_2 h
  · rw [cbs_2 h, cbr_2 h]
theorem cpF_1 (k : Nat) : ∀ (m : Nat) (σ : Sg), (cpF k m σ).1 = σ.1
  | 0, _ => rfl
  | m + 1, σ => by
    rw [cpF]
    split
    · rfl
    · rw [cpF_1 k m, cpS_1]
theorem cpF_2 {k a : Nat} (h : a ≠ k) : ∀ (m : Nat) (σ : Sg), (cpF k m σ).2 a = σ.2 a
  | 0, _ => rfl
  | m + 1, σ => by
    rw [cpF]
    split
    · rfl
    · rw [cpF_2 h m, cpS_2 h]
theorem ctp_1 (k : Nat) (σ : Sg) : (sX6_carryToProduct k σ).1 = σ.1 := by
  unfold sX6_carryToProduct cpE
  split
  · exact cpF_1 k 64 σ
  · exact cpF_1 k 64 σ
theorem ctp_2 {k a : Nat} {σ : Sg} (h : a ≠ k) : (sX6_carryToProduct k σ).2 a = σ.2 a := by
  unfold sX6_carryToProduct cpE
  split
  · rw [cbs_2 h]; exact cpF_2 h 64 σ
  · exact cpF_2 h 64 σ
theorem turn_1 (w p : Nat) (σ : Sg) : (sX9_turnFirstRun w p σ).1 = σ.1 := by unfold sX9_turnFirstRun; split <;> rfl
theorem turn_2 {w p a : Nat} {σ : Sg} (h : a ≠ p) : (sX9_turnFirstRun w p σ).2 a = σ.2 a := by
  unfold sX9_turnFirstRun
  split
  · exact cbr_2 h
  · exact cbl_2 h
theorem drop_2 {w p a : Nat} {σ : Sg} (h : a ≠ p) : (sX9_dropFirstRun w p σ).2 a = σ.2 a := by
  unfold sX9_dropFirstRun
  split <;> simp only [u2k h]
theorem rdA_1 (e i : Nat) (σ : Sg) : (rdA e i σ).1 = σ.1 := by unfold rdA; split <;> rfl
theorem rdA_2 {e i a : Nat} {σ : Sg} (h : a ≠ e) : (rdA e i σ).2 a = σ.2 a := by
  unfold rdA
  split
  · unfold sX6_changeSigns; rw [set_2 h, copy_2 h]
  · exact copy_2 h
theorem rdB_1 (e w p i : Nat) (σ : Sg) : (rdB e w p i σ).1 = σ.1 := by
  unfold rdB
  rw [turn_1]
  show (sX6_carryToProduct e (rdA e i σ)).1 = σ.1
  rw [ctp_1, rdA_1]
theorem rdB_2 {e w p i a : Nat} {σ : Sg} (h : a ≠ e) (h2 : a ≠ p) : (rdB e w p i σ).2 a = σ.2 a := by
  unfold rdB
  rw [turn_2 h2]
  unfold sX9_copyFrom
  rw [copy_2 h2, ctp_2 h, rdA_2 h]
theorem rdC_1 (e w p i : Nat) (σ : Sg) : (rdC e w p i σ).1 = σ.1 := by
  unfold rdC
  split
  · exact rdB_1 e w p i σ
  · rw [turn_1]; exact rdB_1 e w p i σ
theorem rdC_2 {e w p i a : Nat} {σ : Sg} (h : a ≠ e) (h2 : a ≠ p) : (rdC e w p i σ).2 a = σ.2 a := by
  unfold rdC
  split
  · exact rdB_2 h h2
  · rw [turn_2 h2]; exact rdB_2 h h2
theorem leastS_1 {k r n a : Nat} (h : a ≠ k) : ∀ (m x : Nat) (σ : Sg), (leastS k r n m x σ).1 a = σ.1 a
  | 0, _, _ => rfl
  | m + 1, x, σ => by
    rw [leastS]
    split
    · rw [leastS_1 h m]
      split
      · exact u2k h
      · rfl
    · rfl
theorem leastS_2 {k r n : Nat} : ∀ (m x : Nat) (σ : Sg), (leastS k r n m x σ).2 = σ.2
  | 0, _, _ => rfl
  | m + 1, x, σ => by
    rw [leastS]
    split
    · rw [leastS_2 m]
      split <;> rfl
    · rfl
theorem rdG_1 {k r w p a : Nat} (h : a ≠ k) (h2 : a ≠ r) : ∀ (m j : Nat) (σ : Sg), (rdG k r w p m j σ).1 a = σ.1 a
  | 0, j, σ => leastS_1 h 20 2 σ
  | m + 1, j, σ => by
    rw [rdG]
    split
    · exact leastS_1 h 20 2 σ
    · rw [rdG_1 h h2 m]
      unfold rdS
      dsimp only
      rw [u2k h, u2k h2, drop_1]
theorem rdG_2 {k r w p a : Nat} (h : a ≠ p) : ∀ (m j : Nat) (σ : Sg), (rdG k r w p m j σ).2 a = σ.2 a
  | 0, j, σ => by rw [rdG, leastS_2]
  | m + 1, j, σ => by
    rw [rdG]
    split
    · rw [leastS_2]
    · rw [rdG_2 h m]
      unfold rdS
      exact drop_2 h
theorem read_1 {k r e w p i a : Nat} {σ : Sg} (h : a ≠ k) (h2 : a ≠ r) : (sX8_read k r e w p i σ).1 a = σ.1 a := by
  unfold sX8_read rd0 sX8_clear
  rw [rdG_1 h h2]
  dsimp only
  rw [u2k h, u2k h, rdC_1]
theorem read_2 {k r e w p i a : Nat} {σ : Sg} (h : a ≠ e) (h2 : a ≠ p) : (sX8_read k r e w p i σ).2 a = σ.2 a := by
  unfold sX8_read rd0 sX8_clear
  rw [rdG_2 h2]
  exact rdC_2 h h2
theorem look_1 {k s h r e w p i a : Nat} {σ : Sg} (h1 : a ≠ k) (h2 : a ≠ h) (h3 : a ≠ r) : (sX3_lookAt k s h r e w p i σ).1 a = σ.1 a := by
  unfold sX3_lookAt
  split
  · rfl
  · split
    · rw [read_1 h2 h3]; dsimp only; rw [u2k h1, u2k h1]; rfl
    · unfold sX8_clear; dsimp only; rw [u2k h2, u2k h2, u2k h1, u2k h1]; rfl
theorem look_2 {k s h r e w p i a : Nat} {σ : Sg} (h1 : a ≠ s) (h2 : a ≠ e) (h3 : a ≠ p) : (sX3_lookAt k s h r e w p i σ).2 a = σ.2 a := by
  unfold sX3_lookAt
  split
  · rfl
  · split
    · rw [read_2 h2 h3]; exact copy_2 h1
    · unfold sX8_clear; exact copy_2 h1
theorem lds_1 (c i s : Nat) (σ : Sg) : (ldS c i s σ).1 = σ.1 := rfl
theorem lds_2 {c i s a : Nat} {σ : Sg} (h : a ≠ i) : (ldS c i s σ).2 a = σ.2 a := set_2 h
