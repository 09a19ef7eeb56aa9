/-! The seeds of both, what is drawn. -/
noncomputable section
theorem and_31 (N : Nat) : lI (N : Int) &&& 2147483647 = lI ((N % 2147483648 : Nat) : Int) := by
  unfold lI
  apply Int64.toBitVec_inj.mp
  rw [Int64.toBitVec_and, Int64.toBitVec_ofInt, Int64.toBitVec_ofInt, BitVec.ofInt_natCast, BitVec.ofInt_natCast]
  apply BitVec.eq_of_toNat_eq
  rw [BitVec.toNat_and, BitVec.toNat_ofNat, BitVec.toNat_ofNat, show (2147483647 : Int64).toBitVec.toNat = 2 ^ 31 - 1 from rfl, Nat.and_two_pow_sub_one_eq_mod]
  omega
/-- the next seed -/
def nx (s : Nat) : Nat := (s * 1103515245 + 12345) % 2147483648
theorem nx_lt (s : Nat) : nx s < 2147483648 := Nat.mod_lt _ (by decide)
theorem i32_nat {x : Int32} (h : 0 ≤ x) : x.toInt = (x.toInt.toNat : Int) := by
  have := Int32.le_iff_toInt_le.mp h
  rw [show (0 : Int32).toInt = 0 from rfl] at this
  omega
theorem sd_y {x : Int32} (h : 0 ≤ x) : x.toInt64 * 1103515245 + 12345 = lI ((x.toInt.toNat * 1103515245 + 12345 : Nat) : Int) := by
  rw [lI_i32, show (1103515245 : Int64) = lI 1103515245 from rfl, show (12345 : Int64) = lI 12345 from rfl, lI_mul, lI_add]
  congr 1
  have := i32_nat h
  omega
theorem cw_nx {x : Int32} (h : 0 ≤ x) : (x.toInt64 * 1103515245 + 12345 &&& 2147483647 : Int64).toInt32 = nI (nx x.toInt.toNat) := by
  rw [sd_y h, and_31, lI_nI]; rfl
theorem dw_nx {x : Int32} (h : 0 ≤ x) : dw x = nI (nx x.toInt.toNat) := by
  rw [dw_e]
  unfold dw0
  rw [sd_y h]
  have hb : x.toInt.toNat < 2147483648 := by have := Int32.toInt_lt x; omega
  have hN : x.toInt.toNat * 1103515245 + 12345 < 3000000000000000000 := by omega
  unfold nx
  generalize x.toInt.toNat * 1103515245 + 12345 = N at *
  rw [show (2147483648 : Int64) = lI 2147483648 from rfl, lI_divp (by unfold rg; omega) (by unfold rg; omega) (by omega), lI_mul, lI_sub, ← lI_nI]
  congr 2
  omega
def pkN (c s : Nat) : Nat := nx s / 65536 % c
theorem pk_e {c s : Nat} (h1 : 0 < c) (h2 : c < 100) : nI (nx s) / 65536 - nI (nx s) / 65536 / nI c * nI c = nI (pkN c s) := by
  have hs := nx_lt s
  rw [show (65536 : Int32) = nI 65536 from rfl, pk_div (by omega) (by omega) (by omega), pk_rem (by omega) h1 (by omega)]
  unfold pkN
  rfl
theorem pq_lt {c s : Nat} (h : 0 < c) : pkN c s < c := Nat.mod_lt _ h
/-- the seed as a number -/
def sN (x : Int32) : Nat := x.toInt.toNat
theorem sN_nx (s : Nat) : sN (nI (nx s)) = nx s := by
  unfold sN
  rw [nI_int (by have := nx_lt s; omega)]
  exact Int.toNat_natCast _
theorem nx_nn (s : Nat) : 0 ≤ nI (nx s) := by
  rw [Int32.le_iff_toInt_le, nI_int (by have := nx_lt s; omega)]
  exact Int.natCast_nonneg _
theorem cdraw {σ : Sg} {c : Nat} (h : 0 ≤ σ.1 0 9) (h1 : 0 < c) (h2 : c < 100) : rX10_draw (nI c) σ = nI (pkN c (sN (σ.1 0 9))) ∧ sX10_draw (nI c) σ = (u2 σ.1 0 9 (nI (nx (sN (σ.1 0 9)))), σ.2) := by
  have n0 : ¬ nI c ≤ 0 := by
    rw [Int32.le_iff_toInt_le, nI_int (by omega), show (0 : Int32).toInt = 0 from rfl]; omega
  unfold rX10_draw sX10_draw
  rw [if_neg n0, if_neg n0, cw_nx h, u2_eq]
  exact ⟨pk_e h1 h2, rfl⟩
theorem mdraw {σ : Sg} {c : Nat} (h : 0 ≤ σ.1 159 5) (h1 : 0 < c) (h2 : c < 100) : dR (nI c) σ = nI (pkN c (sN (σ.1 159 5))) ∧ dS (nI c) σ = (u2 σ.1 159 5 (nI (nx (sN (σ.1 159 5)))), σ.2) := by
  refine ⟨?_, ?_⟩
  · rw [dr_r, dw_nx h]; exact pk_e h1 h2
  · apply Prod.ext
    · rw [dr_1, dw_nx h]; rfl
    · rw [dr_2]
/-- the square that a letter stands for -/
def lM (j : Nat) : Mx := ((ltr (lAt j)).getD (1, 0, 0, 1))
theorem j6 {j : Nat} (h : j < 6) : j = 0 ∨ j = 1 ∨ j = 2 ∨ j = 3 ∨ j = 4 ∨ j = 5 := by omega
theorem lM_s {j : Nat} (h : j < 6) : ltr (lAt j) = some (lM j) := by
  rcases j6 h with rfl | rfl | rfl | rfl | rfl | rfl <;> rfl
theorem lM_m {j : Nat} {σ : Sg} {C : Mx} (h : j < 6) (hc : Am σ C) : Am (sX11_comes (nI j) σ) (mm C (lM j)) := by
  have e : ((mbl_m hc).1 _ (lM_s h)).2 = ((mbl_m hc).1 _ (lM_s h)).2 := rfl
  have k := ((mbl_m hc).1 _ (lM_s h)).2
  have e2 : rX11_letterOf (lAt j) σ = nI j := by
    rcases j6 h with rfl | rfl | rfl | rfl | rfl | rfl <;> rfl
  rw [e2] at k
  exact k
def lgd (C : Mx) (X : Nat) : Prop := C.1.natAbs ≤ X ∧ C.2.1.natAbs ≤ X ∧ C.2.2.1.natAbs ≤ X ∧ C.2.2.2.natAbs ≤ X
theorem lM_gr {j : Nat} {C : Mx} {X : Nat} (h : j < 6) (hc : lgd C X) : lgd (mm C (lM j)) (2 * X) := by
  have := mm_bd (A := C) (B := lM j) (X := X) (Y := 1) hc (by rcases j6 h with rfl | rfl | rfl | rfl | rfl | rfl <;> decide)
  rw [Nat.mul_one] at this
  exact this
theorem lM_dt {j : Nat} (h : j < 6) : mdt (lM j) = 1 := (ltr_ok (lM_s h)).1
/-- letters drawn one after another -/
def dwd : Nat → Mx × Nat → Mx × Nat
  | 0, p => p
  | m + 1, p => dwd m (mm p.1 (lM (pkN 6 p.2)), nx p.2)
theorem dwd_ok : ∀ (m : Nat) (p : Mx × Nat) (X : Nat), mdt p.1 = 1 → lgd p.1 X → mdt (dwd m p).1 = 1 ∧ lgd (dwd m p).1 (2 ^ m * X) := by
  intro m
  induction m with
  | zero => intro p X h1 h2; rw [dwd, Nat.pow_zero, Nat.one_mul]; exact ⟨h1, h2⟩
  | succ m ih =>
    intro p X h1 h2
    rw [dwd]
    have := ih (mm p.1 (lM (pkN 6 p.2)), nx p.2) (2 * X) (by dsimp only; rw [mdt_mm, h1, lM_dt (pq_lt (by decide))]; rfl) (lM_gr (pq_lt (by decide)) h2)
    rw [show 2 ^ (m + 1) * X = 2 ^ m * (2 * X) by rw [Nat.pow_succ, Nat.mul_assoc]]
    exact this
def dsq (s : Nat) : Mx × Nat := dwd (pkN 8 s + 2) (mo, nx s)
theorem dsq_ok (s : Nat) : okM (dsq s).1 := by
  have h8 : pkN 8 s < 8 := pq_lt (by decide)
  obtain ⟨h1, h2⟩ := dwd_ok (pkN 8 s + 2) (mo, nx s) 1 rfl (show lgd mo 1 from ⟨by decide, by decide, by decide, by decide⟩)
  refine ⟨h1, ?_⟩
  have hp : 2 ^ (pkN 8 s + 2) ≤ 2 ^ 9 := Nat.pow_le_pow_right (by decide) (by omega)
  unfold lgd at h2
  unfold bdM
  unfold dsq
  omega
end
