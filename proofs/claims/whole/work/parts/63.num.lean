/-! Longs as whole numbers. -/
def lI (z : Int) : Int64 := Int64.ofInt z
def rg (z : Int) : Prop := -4611686018427387904 ≤ z ∧ z ≤ 4611686018427387904
theorem lI_add (x y : Int) : lI x + lI y = lI (x + y) := (Int64.ofInt_add x y).symm
theorem lI_sub (x y : Int) : lI x - lI y = lI (x - y) := (Int64.ofInt_sub x y).symm
theorem lI_mul (x y : Int) : lI x * lI y = lI (x * y) := (Int64.ofInt_mul x y).symm
theorem lI_neg (x : Int) : -lI x = lI (-x) := (Int64.ofInt_neg x).symm
theorem lI_to {z : Int} (h : rg z) : (lI z).toInt = z := Int64.toInt_ofInt_of_le (by unfold rg at h; omega) (by unfold rg at h; omega)
theorem lI_lt {x y : Int} (hx : rg x) (hy : rg y) : lI x < lI y ↔ x < y := by rw [Int64.lt_iff_toInt_lt, lI_to hx, lI_to hy]
theorem lI_le {x y : Int} (hx : rg x) (hy : rg y) : lI x ≤ lI y ↔ x ≤ y := by rw [Int64.le_iff_toInt_le, lI_to hx, lI_to hy]
theorem lI_eq {x y : Int} (hx : rg x) (hy : rg y) : lI x = lI y ↔ x = y := by rw [← Int64.toInt_inj, lI_to hx, lI_to hy]
theorem lI_of (x : Int64) : x = lI x.toInt := (Int64.ofInt_toInt x).symm
theorem lI_i32 (x : Int32) : x.toInt64 = lI x.toInt := rfl
theorem lI_0 : (0 : Int64) = lI 0 := rfl
theorem lI_1 : (1 : Int64) = lI 1 := rfl
theorem lI_2 : (2 : Int64) = lI 2 := rfl
theorem rg_0 : rg 0 := ⟨by omega, by omega⟩
theorem lI_lt0 {x : Int} (hx : rg x) : lI x < 0 ↔ x < 0 := lI_lt hx rg_0
theorem lI_0lt {x : Int} (hx : rg x) : 0 < lI x ↔ 0 < x := lI_lt rg_0 hx
theorem lI_eq0 {x : Int} (hx : rg x) : lI x = 0 ↔ x = 0 := lI_eq hx rg_0
theorem lI_div {x y : Int} (hx : rg x) (hy : rg y) : lI x / lI y = lI (x.tdiv y) := by
  have e : (lI x / lI y).toInt = x.tdiv y := by
    rw [Jvm.Kit.i64_div (by rw [lI_to hx, lI_to hy]; unfold rg at *; omega), lI_to hx, lI_to hy]
  rw [← e]
  exact lI_of _
theorem lI_divp {x y : Int} (hx : rg x) (hy : rg y) (h0 : 0 ≤ x) : lI x / lI y = lI (x / y) := by
  rw [lI_div hx hy, Int.tdiv_eq_ediv_of_nonneg h0]
theorem neg_msb (z : Int64) : z < 0 ↔ z.toBitVec.msb = true := by
  rw [Int64.lt_iff_toInt_lt, Int64.toInt_zero, BitVec.msb_eq_toInt]
  exact decide_eq_true_iff.symm
theorem xor_neg (x y : Int64) : (x ^^^ y) < 0 ↔ ¬ ((x < 0) ↔ (y < 0)) := by
  rw [neg_msb, neg_msb, neg_msb, Int64.toBitVec_xor, BitVec.msb_xor]
  cases x.toBitVec.msb <;> cases y.toBitVec.msb <;> simp
/-- small numbers -/
def sm (z : Int) : Prop := -1000000000000000 ≤ z ∧ z ≤ 1000000000000000
theorem sm_rg {z : Int} (h : sm z) : rg z := ⟨by unfold sm at h; omega, by unfold sm at h; omega⟩
theorem td_pos {x y : Int} (hy : 0 < y) : (0 ≤ x ∧ x.tdiv y = x / y) ∨ (x < 0 ∧ y ∣ x ∧ x.tdiv y = x / y) ∨ (x < 0 ∧ ¬ y ∣ x ∧ x.tdiv y = x / y + 1) := by
  rw [Int.tdiv_eq_ediv]
  by_cases h : 0 ≤ x
  · left; exact ⟨h, by simp [h]⟩
  · right
    by_cases hd : y ∣ x
    · left; exact ⟨by omega, hd, by simp [hd]⟩
    · right
      refine ⟨by omega, hd, ?_⟩
      rw [if_neg (by intro z; rcases z with z | z; exact h z; exact hd z), Int.sign_eq_one_of_pos hy]
theorem ed_bd {x y : Int} (hy : 0 < y) : x - y < x / y * y ∧ x / y * y ≤ x := by
  have h1 := Int.emod_nonneg x (show y ≠ 0 by omega)
  have h2 := Int.emod_lt_of_pos x hy
  have h3 := Int.mul_ediv_add_emod x y
  rw [Int.mul_comm] at h3
  omega
theorem td_mul {x y : Int} (hx : sm x) (hy : sm y) (h0 : 0 < y) : (x.tdiv y * y = x ↔ (0 ≤ x ∧ y ∣ x) ∨ (x < 0 ∧ y ∣ x)) ∧ rg (x.tdiv y * y) := by
  have b := ed_bd (x := x) h0
  unfold sm at hx hy
  rcases td_pos (x := x) h0 with ⟨h, e⟩ | ⟨h, hd, e⟩ | ⟨h, hd, e⟩
  · rw [e]
    refine ⟨⟨fun q => Or.inl ⟨h, ⟨x / y, by rw [Int.mul_comm]; exact q.symm⟩⟩, fun q => ?_⟩, by unfold rg; omega⟩
    rcases q with q | q
    · exact Int.ediv_mul_cancel q.2
    · exact Int.ediv_mul_cancel q.2
  · rw [e]
    exact ⟨⟨fun _ => Or.inr ⟨h, hd⟩, fun _ => Int.ediv_mul_cancel hd⟩, by unfold rg; omega⟩
  · rw [e]
    have e2 : (x / y + 1) * y = x / y * y + y := by rw [Int.add_mul, Int.one_mul]
    refine ⟨⟨fun q => absurd ⟨x / y + 1, by rw [Int.mul_comm]; exact q.symm⟩ hd, fun q => ?_⟩, by unfold rg; omega⟩
    rcases q with q | q
    · omega
    · exact absurd q.2 hd
theorem fd_lI {x y : Int} {σ : Sg} (hx : sm x) (hy : sm y) (h0 : 0 < y) : rJ9_floorDiv_f86c9 (lI x) (lI y) σ = lI (x / y) := by
  unfold rJ9_floorDiv_f86c9
  obtain ⟨q1, q2⟩ := td_mul hx hy h0
  have hc : ((lI x ^^^ lI y) < 0) ↔ x < 0 := by
    rw [xor_neg, lI_0, lI_lt (sm_rg hx) rg_0, lI_lt (sm_rg hy) rg_0]
    omega
  rw [lI_div (sm_rg hx) (sm_rg hy), lI_mul]
  by_cases h : x < 0
  · rw [if_pos (hc.mpr h)]
    by_cases hd : y ∣ x
    · rw [if_pos ((lI_eq q2 (sm_rg hx)).mpr (q1.mpr (Or.inr ⟨h, hd⟩)))]
      rcases td_pos (x := x) h0 with ⟨k, e⟩ | ⟨k, kd, e⟩ | ⟨k, kd, e⟩
      · omega
      · rw [e]
      · exact absurd hd kd
    · rw [if_neg (fun z => hd ((q1.mp ((lI_eq q2 (sm_rg hx)).mp z)).elim (fun w => w.2) (fun w => w.2)))]
      rcases td_pos (x := x) h0 with ⟨k, e⟩ | ⟨k, kd, e⟩ | ⟨k, kd, e⟩
      · omega
      · exact absurd kd hd
      · rw [e, lI_1, lI_sub, show x / y + 1 - 1 = x / y by omega]
  · rw [if_neg (fun z => h (hc.mp z)), Int.tdiv_eq_ediv_of_nonneg (by omega)]
theorem fl_lI {x y : Int} {σ : Sg} (hx : sm x) (hy : sm y) (h0 : 0 < y) : rX11_floor (lI x) (lI y) σ = lI (x / y) := by
  unfold rX11_floor
  obtain ⟨q1, q2⟩ := td_mul hx hy h0
  rw [lI_div (sm_rg hx) (sm_rg hy), lI_mul]
  have c1 : (lI x < 0) ↔ x < 0 := by rw [lI_0, lI_lt (sm_rg hx) rg_0]
  have c2 : ¬ (lI y < 0) := by rw [lI_0, lI_lt (sm_rg hy) rg_0]; omega
  by_cases hd : y ∣ x
  · have e0 : x.tdiv y * y = x := by
      by_cases h : x < 0
      · exact q1.mpr (Or.inr ⟨h, hd⟩)
      · exact q1.mpr (Or.inl ⟨by omega, hd⟩)
    rw [if_pos ((lI_eq q2 (sm_rg hx)).mpr e0)]
    rcases td_pos (x := x) h0 with ⟨k, e⟩ | ⟨k, kd, e⟩ | ⟨k, kd, e⟩
    · rw [e]
    · rw [e]
    · exact absurd hd kd
  · rw [if_neg (fun z => hd ((q1.mp ((lI_eq q2 (sm_rg hx)).mp z)).elim (fun w => w.2) (fun w => w.2)))]
    by_cases h : x < 0
    · rw [if_pos (c1.mpr h), if_neg c2]
      rcases td_pos (x := x) h0 with ⟨k, e⟩ | ⟨k, kd, e⟩ | ⟨k, kd, e⟩
      · omega
      · exact absurd kd hd
      · rw [e, lI_1, lI_sub, show x / y + 1 - 1 = x / y by omega]
    · rw [if_neg (fun z => h (c1.mp z)), if_neg c2, Int.tdiv_eq_ediv_of_nonneg (by omega)]
theorem abs_lI {x : Int} {σ : Sg} (h : rg x) : rJ9_abs_067f4 (lI x) σ = lI (if x < 0 then -x else x) := by
  unfold rJ9_abs_067f4
  by_cases hx : x < 0
  · rw [if_pos ((lI_lt0 h).mpr hx), if_pos hx, lI_neg]
  · rw [if_neg (fun z => hx ((lI_lt0 h).mp z)), if_neg hx]
theorem far_lI {x : Int} {σ : Sg} (h : rg x) : rX11_far (lI x) σ = lI (if x < 0 then -x else x) := by
  unfold rX11_far
  by_cases hx : x < 0
  · rw [if_pos ((lI_lt0 h).mpr hx), if_pos hx, lI_0, lI_sub, show (0 : Int) - x = -x by omega]
  · rw [if_neg (fun z => hx ((lI_lt0 h).mp z)), if_neg hx]
