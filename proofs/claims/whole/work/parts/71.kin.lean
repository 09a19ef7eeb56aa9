/-! Kinds, shifts. -/
theorem rem_lI {x y : Nat} (hx : x < 1000000000000000) (hy : y < 1000000000000000) (h0 : 0 < y) : lI x - lI x / lI y * lI y = lI ((x % y : Nat) : Int) := by
  rw [lI_divp (by unfold rg; omega) (by unfold rg; omega) (by omega), lI_mul, lI_sub]
  congr 1
  rw [Int.natCast_emod, Int.emod_def, Int.mul_comm]
theorem gcd_go : ∀ (m x y : Nat), y < m → x < 1000000000000000 → y < 1000000000000000 → gcdF m (lI x) (lI y) = lI (Nat.gcd x y : Nat)
  | 0, x, y, h, _, _ => absurd h (Nat.not_lt_zero _)
  | m + 1, x, y, h, hx, hy => by
    rw [gcdF]
    by_cases c : y = 0
    · subst c
      rw [if_pos (show lI ((0 : Nat) : Int) = 0 from rfl), Nat.gcd_zero_right]
    · have hr : x % y < y := Nat.mod_lt _ (by omega)
      rw [if_neg (fun z => c (by have := (lI_eq0 (by unfold rg; omega)).mp z; omega)), rem_lI hx hy (by omega), gcd_go m y (x % y) (by omega) hy (by omega), Nat.gcd_comm x y, Nat.gcd_rec y x, Nat.gcd_comm]
theorem gcd_half : ∀ (k m x y : Nat), y < 2 ^ k → 2 * k ≤ m → x < 1000000000000000 → y < 1000000000000000 → gcdF m (lI x) (lI y) = lI (Nat.gcd x y : Nat)
  | 0, m, x, y, h, hm, hx, hy => by
    have : y = 0 := by simp at h; exact h
    subst this
    rw [Nat.gcd_zero_right]
    cases m with
    | zero => rfl
    | succ m => rw [gcdF, if_pos (show lI ((0 : Nat) : Int) = 0 from rfl)]
  | k + 1, m, x, y, h, hm, hx, hy => by
    obtain ⟨m, rfl⟩ : ∃ j, m = j + 1 + 1 := ⟨m - 2, by omega⟩
    rw [gcdF]
    by_cases c : y = 0
    · subst c
      rw [if_pos (show lI ((0 : Nat) : Int) = 0 from rfl), Nat.gcd_zero_right]
    · have hr : x % y < y := Nat.mod_lt _ (by omega)
      rw [if_neg (fun z => c (by have := (lI_eq0 (by unfold rg; omega)).mp z; omega)), rem_lI hx hy (by omega), Nat.gcd_comm x y, Nat.gcd_rec y x, gcdF]
      generalize x % y = r at *
      by_cases c2 : r = 0
      · subst c2
        rw [if_pos (show lI ((0 : Nat) : Int) = 0 from rfl), Nat.gcd_zero_left]
      · have hq : y % r < r := Nat.mod_lt _ (by omega)
        have hq2 : y % r < 2 ^ k := by
          have e := Nat.mod_add_div y r
          have d1 : 1 ≤ y / r := (Nat.le_div_iff_mul_le (by omega)).mpr (by omega)
          have d2 := Nat.mul_le_mul_left r d1
          rw [Nat.pow_succ] at h
          omega
        rw [if_neg (fun z => c2 (by have := (lI_eq0 (by unfold rg; omega)).mp z; omega)), rem_lI hy (by omega) (by omega), gcd_half k m r (y % r) hq2 (by omega) (by omega) (by omega), Nat.gcd_comm r, ← Nat.gcd_rec]
theorem abs_nat (x : Int) : (if x < 0 then -x else x) = ((x.natAbs : Nat) : Int) := by split <;> omega
theorem dv_lI {x y : Int} {σ : Sg} (hx : x.natAbs < 100000000) (hy : y.natAbs < 100000000) : dvF (lI x) (lI y) σ = lI (Nat.gcd x.natAbs y.natAbs : Nat) := by
  unfold dvF
  rw [far_lI (by unfold rg; omega), far_lI (by unfold rg; omega), abs_nat, abs_nat, lI_to (by unfold rg; omega)]
  exact gcd_go _ _ _ (by omega) (by omega) (by omega)
/-- trace and kind -/
def knd (A : Mx) : Int32 := if (mtr A).natAbs < 2 then 1 else if 2 < (mtr A).natAbs then 3 else if A.2.1 = 0 ∧ A.2.2.1 = 0 then 0 else 2
theorem knd_3 {A : Mx} : knd A = 3 ↔ 3 ≤ (mtr A).natAbs := by
  unfold knd
  split
  · exact ⟨fun z => absurd z (by decide), fun z => by omega⟩
  · split
    · exact ⟨fun _ => by omega, fun _ => rfl⟩
    · split
      · exact ⟨fun z => absurd z (by decide), fun z => by omega⟩
      · exact ⟨fun z => absurd z (by decide), fun z => by omega⟩
theorem one_tr {A : Mx} (hd : mdt A = 1) (hb : A.2.1 = 0) (hc : A.2.2.1 = 0) : (mtr A).natAbs = 2 := by
  unfold mdt at hd
  rw [hb, Int.zero_mul] at hd
  unfold mtr
  have h1 : A.1 * A.2.2.2 = 1 := by omega
  have h2 := Int.natAbs_mul A.1 A.2.2.2
  rw [h1] at h2
  have h3 : A.1.natAbs = 1 := Nat.eq_one_of_mul_eq_one_right h2.symm
  have h4 : A.2.2.2.natAbs = 1 := Nat.eq_one_of_mul_eq_one_left h2.symm
  by_cases c : A.1 = 1
  · rw [c, Int.one_mul] at h1
    omega
  · have c' : A.1 = -1 := by omega
    rw [c'] at h1
    omega
/-- by how much a shift goes -/
def shN (A : Mx) : Int := if ((0 < A.2.1 ∨ A.2.2.1 < 0) ↔ mtr A < 0) then -((Nat.gcd A.2.1.natAbs A.2.2.1.natAbs : Nat) : Int) else ((Nat.gcd A.2.1.natAbs A.2.2.1.natAbs : Nat) : Int)
theorem gcd_bd {A : Mx} (h : bdM A) : Nat.gcd A.2.1.natAbs A.2.2.1.natAbs ≤ 1000000 := by
  unfold bdM at h
  by_cases c : A.2.1.natAbs = 0
  · rw [c, Nat.gcd_zero_left]; omega
  · have := Nat.gcd_le_left A.2.2.1.natAbs (show 0 < A.2.1.natAbs by omega)
    omega
/-- the class's kind -/
theorem at_kind {σ : Sg} {i : Nat} {A : Mx} (h : At σ i A) (hA : bdM A) : rX3_kindOf i σ = knd A := by
  have hb := hA
  unfold bdM at hb
  unfold rX3_kindOf knd
  have r : rg (mtr A) := by unfold rg mtr; omega
  rw [at_tr h, abs_lI r, abs_nat, h.2.1, h.2.2.1, show (2 : Int64) = lI 2 from rfl]
  have rn : rg (((mtr A).natAbs : Nat) : Int) := by unfold mtr at *; unfold rg at *; omega
  have r2 : rg (2 : Int) := by unfold rg; omega
  have e1 := lI_lt rn r2
  have e2 := lI_lt r2 rn
  have e3 : lI A.2.1 = 0 ↔ A.2.1 = 0 := lI_eq0 (by unfold rg; omega)
  have e4 : lI A.2.2.1 = 0 ↔ A.2.2.1 = 0 := lI_eq0 (by unfold rg; omega)
  by_cases c1 : (mtr A).natAbs < 2
  · rw [if_pos (e1.mpr (by omega)), if_pos c1]
  · rw [if_neg (fun z => c1 (by have := e1.mp z; omega)), if_neg c1]
    by_cases c2 : 2 < (mtr A).natAbs
    · rw [if_pos (e2.mpr (by omega)), if_pos c2]
    · rw [if_neg (fun z => c2 (by have := e2.mp z; omega)), if_neg c2]
      by_cases c3 : A.2.1 = 0
      · rw [if_pos (e3.mpr c3)]
        by_cases c4 : A.2.2.1 = 0
        · rw [if_pos (e4.mpr c4), if_pos ⟨c3, c4⟩]
        · rw [if_neg (fun z => c4 (e4.mp z)), if_neg (fun z => c4 z.2)]
      · rw [if_neg (fun z => c3 (e3.mp z)), if_neg (fun z => c3 z.1)]
def iI (z : Int) : Int32 := Int32.ofInt z
theorem lI_iI (z : Int) : (lI z).toInt32 = iI z := by unfold lI iI; exact Int64.toInt32_ofInt
theorem at_shift {σ : Sg} {i : Nat} {A : Mx} (h : At σ i A) (hA : bdM A) : rX3_measureShift i σ = iI (shN A) := by
  have hb := hA
  unfold bdM at hb
  unfold rX3_measureShift shN
  have r : rg (mtr A) := by unfold rg mtr; omega
  have rb : rg A.2.1 := by unfold rg; omega
  have rc : rg A.2.2.1 := by unfold rg; omega
  rw [at_tr h, h.2.1, h.2.2.1, abs_lI rb, abs_lI rc, abs_nat, abs_nat, gcd_half 20 64 _ _ (by simp; omega) (by omega) (by omega) (by omega), lI_neg, lI_iI, lI_iI]
  have e1 := lI_0lt rb
  have e2 := lI_lt0 rc
  have e3 := lI_lt0 r
  by_cases c1 : 0 < A.2.1 <;> by_cases c2 : A.2.2.1 < 0 <;> by_cases c3 : mtr A < 0 <;> simp [e1, e2, e3, c1, c2, c3]
theorem sgn_u {y : Int} (h : rg y) : ((lI y).toUInt64 >>> ((63 : Int32).toInt64.toUInt64 &&& Int64.toUInt64 63)).toInt64 = if y < 0 then 1 else 0 := by
  have e : (63 : Int32).toInt64.toUInt64 &&& Int64.toUInt64 63 = 63 := by decide +kernel
  have n : (lI y).toUInt64.toNat = (y % 18446744073709551616).toNat := by
    show (BitVec.ofInt 64 y).toNat = _
    rw [BitVec.toNat_ofInt]; rfl
  have p : 2 ^ ((63 : UInt64).toNat % 64) = 9223372036854775808 := by decide +kernel
  unfold rg at h
  rw [e]
  by_cases c : y < 0
  · have : (lI y).toUInt64 >>> 63 = 1 := UInt64.toNat_inj.mp (by
      rw [UInt64.toNat_shiftRight, n, Nat.shiftRight_eq_div_pow, p]
      show _ = 1
      omega)
    rw [this, if_pos c]; rfl
  · have : (lI y).toUInt64 >>> 63 = 0 := UInt64.toNat_inj.mp (by
      rw [UInt64.toNat_shiftRight, n, Nat.shiftRight_eq_div_pow, p]
      show _ = 0
      omega)
    rw [this, if_neg c]; rfl
theorem sgn_s {x : Int} (h : rg x) : lI x >>> ((63 : Int32).toInt64 &&& 63) = if x < 0 then -1 else 0 := by
  have e : (((63 : Int32).toInt64 &&& 63).toBitVec.smod 64).toNat = 63 := by decide +kernel
  have t : (lI x >>> ((63 : Int32).toInt64 &&& 63)).toInt = x / 9223372036854775808 := by
    show ((lI x).toBitVec.sshiftRight' (((63 : Int32).toInt64 &&& 63).toBitVec.smod 64)).toInt = _
    rw [BitVec.toInt_sshiftRight', e, Int.shiftRight_eq_div_pow]
    have := lI_to h
    rw [show (lI x).toBitVec.toInt = x from this]
    rfl
  apply Int64.toInt_inj.mp
  rw [t]
  unfold rg at h
  by_cases c : x < 0
  · rw [if_pos c]
    show _ = (-1 : Int)
    omega
  · rw [if_neg c]
    show _ = (0 : Int)
    omega
theorem signum_lI {x : Int} {σ : Sg} (h : rg x) : rJ13_signum_95d88 (lI x) σ = if x < 0 then -1 else if 0 < x then 1 else 0 := by
  unfold rJ13_signum_95d88
  rw [sgn_s h, lI_neg, sgn_u (by unfold rg at *; omega)]
  by_cases c : x < 0
  · rw [if_pos c, if_pos c, if_neg (by omega)]; decide +kernel
  · rw [if_neg c, if_neg c]
    by_cases c2 : 0 < x
    · rw [if_pos c2, if_pos (by omega)]; decide +kernel
    · rw [if_neg c2, if_neg (by omega)]; decide +kernel
/-- the class's mark -/
def mrk (A : Mx) : Int32 := if knd A = 1 then (if A.2.2.1 < 0 then -1 else if 0 < A.2.2.1 then 1 else 0) else if knd A = 2 then iI (shN A) else 0
theorem at_mark {σ : Sg} {k s h r e w p i : Nat} {A : Mx} (ha : At σ i A) (hA : bdM A) (hk : σ.1 k 2 = knd A) : rX3_markOf k s h r e w p i σ = mrk A := by
  have hb := hA
  unfold bdM at hb
  unfold rX3_markOf mrk
  rw [hk, ha.2.2.1, signum_lI (by unfold rg; omega), at_shift ha hA]
noncomputable def whl (A : Mx) : List Nat := @dite _ (knd A = 3 ∧ ∃ w, IsWh (psq A) w) (Classical.propDecidable _) (fun h => Classical.choose h.2) (fun _ => [])
theorem whl_eq {A : Mx} {w : List Nat} (hk : knd A = 3) (h : IsWh (psq A) w) : whl A = w := by
  unfold whl
  rw [dif_pos ⟨hk, w, h⟩]
  exact wh_uniq (Classical.choose_spec (⟨w, h⟩ : ∃ w, IsWh (psq A) w)) h
theorem whl_nil {A : Mx} (hk : ¬ knd A = 3) : whl A = [] := by
  unfold whl
  rw [dif_neg (fun z => hk z.1)]
/-- a wheel of the class -/
def WhOk (σ : Sg) (h r : Nat) (W : List Nat) : Prop := ∃ ws t, W = rtl ws t ∧ ws.length ≤ 40 ∧ ws.length % 2 = 0 ∧ rpos ws ∧ sbn ws ∧ t % 2 = 0 ∧ (t < ws.length ∨ ws = [] ∧ t = 0) ∧ σ.1 h 3 = nI ws.length ∧ σ.1 h 4 = nI t ∧ Vl (σ.1 r) ws
def KinOk (σ : Sg) (k s h r : Nat) (A : Mx) : Prop := At σ s A ∧ σ.1 k 2 = knd A ∧ σ.1 k 3 = mrk A ∧ WhOk σ h r (whl A)
/-- what is known, or nothing yet -/
def KinC (σ : Sg) (k s h r : Nat) : Prop := (At σ s (0, 0, 0, 0) ∧ WOk σ h) ∨ ∃ A, okM A ∧ KinOk σ k s h r A
theorem at_same {σ : Sg} {s i : Nat} {A B : Mx} (h : At σ s A) (h' : At σ i B) (hA : big A) (hB : big B) : rX6_isSameAs s i σ = true ↔ A = B := by
  obtain ⟨h1, h2, h3, h4⟩ := h
  obtain ⟨g1, g2, g3, g4⟩ := h'
  obtain ⟨a1, a2, a3, a4⟩ := hA
  obtain ⟨b1, b2, b3, b4⟩ := hB
  unfold rX6_isSameAs
  rw [h1, h2, h3, h4, g1, g2, g3, g4]
  have e1 := lI_eq (sm_rg a1) (sm_rg b1)
  have e2 := lI_eq (sm_rg a2) (sm_rg b2)
  have e3 := lI_eq (sm_rg a3) (sm_rg b3)
  have e4 := lI_eq (sm_rg a4) (sm_rg b4)
  constructor
  · intro q
    by_cases c1 : lI A.1 = lI B.1
    · rw [if_pos c1] at q
      by_cases c2 : lI A.2.1 = lI B.2.1
      · rw [if_pos c2] at q
        by_cases c3 : lI A.2.2.1 = lI B.2.2.1
        · rw [if_pos c3] at q
          by_cases c4 : lI A.2.2.2 = lI B.2.2.2
          · exact mx_ext (e1.mp c1) (e2.mp c2) (e3.mp c3) (e4.mp c4)
          · rw [if_neg c4] at q; cases q
        · rw [if_neg c3] at q; cases q
      · rw [if_neg c2] at q; cases q
    · rw [if_neg c1] at q; cases q
  · intro q
    rw [q, if_pos rfl, if_pos rfl, if_pos rfl, if_pos rfl]
theorem KinOk.c {σ : Sg} {k s h r : Nat} {A : Mx} (hA : okM A) (x : KinOk σ k s h r A) : KinC σ k s h r := Or.inr ⟨A, hA, x⟩
theorem WhOk.w {σ : Sg} {h r : Nat} {W : List Nat} (x : WhOk σ h r W) : WOk σ h := by
  obtain ⟨ws, t, _, h2, _, _, _, _, h7, h8, h9, _⟩ := x
  exact WOk.mk' h8 h2 h9 (by rcases h7 with q | q <;> omega)
theorem KinC.w {σ : Sg} {k s h r : Nat} (x : KinC σ k s h r) : WOk σ h := by
  rcases x with x | ⟨A, _, x⟩
  · exact x.2
  · exact x.2.2.2.w
theorem KinOk.fr {σ τ : Sg} {k s h r : Nat} {A : Mx} (es : τ.2 s = σ.2 s) (ek : τ.1 k = σ.1 k) (eh : τ.1 h = σ.1 h) (er : τ.1 r = σ.1 r) (x : KinOk σ k s h r A) : KinOk τ k s h r A := by
  unfold KinOk WhOk At at *
  rw [es, ek, eh, er]; exact x
theorem KinC.fr {σ τ : Sg} {k s h r : Nat} (es : τ.2 s = σ.2 s) (ek : τ.1 k = σ.1 k) (eh : τ.1 h = σ.1 h) (er : τ.1 r = σ.1 r) (x : KinC σ k s h r) : KinC τ k s h r := by
  rcases x with x | ⟨A, hA, x⟩
  · left; exact ⟨at_fr2 es x.1, x.2.fr eh⟩
  · right; exact ⟨A, hA, x.fr es ek eh er⟩
theorem look_kin {k s h r e w p i : Nat} {σ : Sg} {A : Mx} (hsi : i ≠ s) (hkh : k ≠ h) (hkr : k ≠ r) (hhr : h ≠ r) (hse : s ≠ e) (hsp : s ≠ p) (hA : okM A) (ha : At σ i A) (hk : KinC σ k s h r) : KinOk (sX3_lookAt k s h r e w p i σ) k s h r A := by
  have bA := bdM_big hA.2
  unfold sX3_lookAt
  by_cases c : rX6_isSameAs s i σ = true
  · rw [if_pos c]
    rcases hk with hk | ⟨A', hA', hk⟩
    · exfalso
      have e0 := (at_same hk.1 ha (by unfold big sm; simp) bA).mp c
      have := hA.1
      rw [← e0] at this
      simp [mdt] at this
    · have e0 := (at_same hk.1 ha (bdM_big hA'.2) bA).mp c
      rw [← e0]; exact hk
  · rw [if_neg c]
    have a1 : At (sX6_copyFrom s i σ) s A := at_copy ha
    have a2 : At (sX6_copyFrom s i σ) i A := at_fr2 (copy_2 hsi) ha
    rw [at_kind a2 hA.2]
    have em : rX3_markOf k s h r e w p i (u2 (sX6_copyFrom s i σ).1 k 2 (knd A), (sX6_copyFrom s i σ).2) = mrk A := at_mark (at_fr2 rfl a2) hA.2 (u2_eq _ _ _ _)
    rw [em]
    generalize hρ : ((u2 (u2 (sX6_copyFrom s i σ).1 k 2 (knd A)) k 3 (mrk A), (sX6_copyFrom s i σ).2) : Sg) = ρ
    have k2 : ρ.1 k 2 = knd A := by rw [← hρ]; dsimp only; rw [u2_j (by decide), u2_eq]
    have k3 : ρ.1 k 3 = mrk A := by rw [← hρ]; dsimp only; rw [u2_eq]
    have k2' : u2 (u2 (sX6_copyFrom s i σ).1 k 2 (knd A)) k 3 (mrk A) k 2 = knd A := by rw [u2_j (by decide), u2_eq]
    rw [k2']
    have r1 : At ρ s A := by rw [← hρ]; exact at_fr2 rfl a1
    have r2 : At ρ i A := by rw [← hρ]; exact at_fr2 rfl a2
    by_cases c3 : knd A = 3
    · rw [if_pos c3]
      have es : (sX8_read h r e w p i ρ).2 s = ρ.2 s := read_2 hse hsp
      have ek : (sX8_read h r e w p i ρ).1 k = ρ.1 k := read_1 hkh hkr
      refine ⟨at_fr2 es r1, by rw [ek]; exact k2, by rw [ek]; exact k3, ?_⟩
      obtain ⟨ws, t, q1, q2, q3, q4, q5, q6, q7, q8, q9, q10⟩ := read_wh (e := e) (w := w) (p := p) hhr r2 hA (knd_3.mp c3)
      exact ⟨ws, t, whl_eq c3 q1, q2, q3, q4, q5, q6, Or.inl q7, q8, q9, q10⟩
    · rw [if_neg c3]
      have ek : ∀ j, (sX8_clear h r e w p ρ).1 k j = ρ.1 k j := fun j => by unfold sX8_clear; dsimp only; rw [u2_k hkh, u2_k hkh]
      refine ⟨at_fr2 rfl r1, by rw [ek]; exact k2, by rw [ek]; exact k3, [], 0, ?_, by simp, rfl, ?_, ?_, rfl, Or.inr ⟨rfl, rfl⟩, ?_, ?_, ?_⟩
      · rw [whl_nil c3]; rfl
      · intro n hn; simp at hn
      · intro n hn; simp at hn
      · unfold sX8_clear; dsimp only; rw [u2_j (by decide), u2_eq]; rfl
      · unfold sX8_clear; dsimp only; rw [u2_eq]; rfl
      · intro j hj; simp at hj
