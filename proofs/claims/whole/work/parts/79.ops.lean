/-! Squares put, told, noted, multiplied, turned back, carried, raised. -/
noncomputable section
def hsx (x : Int32) (n : Nat) : Prop := 0 ≤ x.toInt ∧ x.toInt < n
theorem hsx_e {x : Int32} {n : Nat} (h : hsx x n) : x = nI x.toNatClampNeg ∧ x.toNatClampNeg < n := by
  have h0 : ¬ x < 0 := by rw [Int32.lt_iff_toInt_lt, show (0 : Int32).toInt = 0 from rfl]; have := h.1; omega
  refine ⟨nI_self h0, ?_⟩
  rw [Int32.toNatClampNeg]
  have := h.2
  have := h.1
  omega
theorem has_c {σ : Sg} {L : List Mx} (h : ShC σ 1 2 L) (x : Int32) : rX5_has 1 2 x σ = true ↔ hsx x L.length := by
  have hl := h.2.1.1
  unfold rX5_has hsx
  rw [h.1]
  have x0 : x < 0 ↔ x.toInt < 0 := Int32.lt_iff_toInt_lt
  have x1 : nI L.length ≤ x ↔ (L.length : Int) ≤ x.toInt := by rw [Int32.le_iff_toInt_le, nI_int (by omega)]
  by_cases c0 : x.toInt < 0
  · rw [if_pos (x0.mpr c0)]; exact ⟨fun z => absurd z (by decide), fun z => by omega⟩
  · rw [if_neg (fun z => c0 (x0.mp z))]
    by_cases c1 : (L.length : Int) ≤ x.toInt
    · rw [if_pos (x1.mpr c1)]; exact ⟨fun z => absurd z (by decide), fun z => by omega⟩
    · rw [if_neg (fun z => c1 (x1.mp z))]; exact ⟨fun _ => by omega, fun _ => rfl⟩
theorem has_m {σ : Sg} {L : List Mx} (h : M1 σ L) (x : Int32) : rX11_isSquare x σ = true ↔ hsx x L.length := by
  have hl := h.2.1
  unfold rX11_isSquare hsx
  rw [in_i, h.1, Int32.toInt_toInt64, nIm1 (by omega), show (0 : Int64).toInt = 0 from rfl]
  omega
theorem full_c {σ : Sg} {L : List Mx} (h : ShC σ 1 2 L) : rX5_isFull 1 2 σ = true ↔ L.length = 12 := by
  have hl := h.2.1.1
  unfold rX5_isFull
  rw [h.1, show (12 : Int32) = nI 12 from rfl]
  have e := nI_ltI (a := L.length) (b := 12) (by omega) (by omega)
  by_cases c : L.length < 12
  · rw [if_pos (e.mpr c)]; exact ⟨fun z => absurd z (by decide), fun z => by omega⟩
  · rw [if_neg (fun z => c (e.mp z))]; exact ⟨fun _ => by omega, fun _ => rfl⟩
theorem full_m {σ : Sg} {L : List Mx} (h : M1 σ L) : σ.1 160 0 = 12 ↔ L.length = 12 := by
  have hl := h.2.1
  rw [h.1, show (12 : Int32) = nI 12 from rfl]
  exact nIe (by omega) (by omega)
theorem rc_tmp {σ : Sg} {L : List Mx} {Q : List (List Mx)} {q : Nat} {I : Ims} {T : List Int32} {fa : Int32} {B : Bk} {sd : Int32} {k : Nat} {x y z w : Int64} (hk : (60 ≤ k ∧ k ≤ 64) ∨ 149 < k) (h : RC σ L Q q I T fa B sd) : RC (sX6_set k x y z w σ) L Q q I T fa B sd := RC.fr (σ := σ) (fun _ _ => rfl) (fun a ha => set_2 (by omega)) h
theorem at_sq {σ : Sg} {k : Nat} {x y z w : Int64} {A : Mx} (h1 : x = lI A.1) (h2 : y = lI A.2.1) (h3 : z = lI A.2.2.1) (h4 : w = lI A.2.2.2) : At (sX6_set k x y z w σ) k A := by
  subst h1 h2 h3 h4
  refine ⟨?_, ?_, ?_, ?_⟩ <;> simp [sX6_set, u2]
theorem at_prod {σ : Sg} {k i j : Nat} {A B : Mx} (h1 : At σ i A) (h2 : At σ j B) : At (sX6_setProduct k i j σ) k (mm A B) := by
  obtain ⟨a1, a2, a3, a4⟩ := h1
  obtain ⟨b1, b2, b3, b4⟩ := h2
  unfold sX6_setProduct
  rw [a1, a2, a3, a4, b1, b2, b3, b4]
  apply at_sq <;> rw [lI_mul, lI_mul, lI_add] <;> rfl
theorem at_bk {σ : Sg} {k : Nat} {A : Mx} (h : At σ k A) : At (sX6_turnBack k σ) k (mad A) := by
  obtain ⟨a1, a2, a3, a4⟩ := h
  unfold sX6_turnBack
  rw [a1, a2, a3, a4]
  apply at_sq
  · rfl
  · rw [lI_neg]; rfl
  · rw [lI_neg]; rfl
  · rfl
def mmr (A : Mx) : Mx := (A.1, -A.2.1, -A.2.2.1, A.2.2.2)
theorem at_mi {σ : Sg} {k : Nat} {A : Mx} (h : At σ k A) : At (sX6_mirror k σ) k (mmr A) := by
  obtain ⟨a1, a2, a3, a4⟩ := h
  unfold sX6_mirror
  rw [a1, a2, a3, a4]
  apply at_sq
  · rfl
  · rw [lI_neg]; rfl
  · rw [lI_neg]; rfl
  · rfl
theorem at_ne {σ : Sg} {k a : Nat} {x y z w : Int64} {A : Mx} (h : a ≠ k) (ha : At σ a A) : At (sX6_set k x y z w σ) a A := at_fr2 (set_2 h) ha
theorem am_mul {σ : Sg} {A B : Mx} {x1 x2 x3 x4 : Int64} (h : Am σ A) (h1 : x1 = lI B.1) (h2 : x2 = lI B.2.1) (h3 : x3 = lI B.2.2.1) (h4 : x4 = lI B.2.2.2) : Am (sX11_multiplies x1 x2 x3 x4 σ) (mm A B) := by
  obtain ⟨a1, a2, a3, a4⟩ := h
  subst h1 h2 h3 h4
  unfold sX11_multiplies
  rw [a1, a2, a3, a4]
  apply am_tk <;> rw [lI_mul, lI_mul, lI_add] <;> rfl
theorem am_bk {σ τ : Sg} {A : Mx} (h : Am σ A) : Am (sX11_takes (σ.2 159 14) (0 - σ.2 159 12) (0 - σ.2 159 13) (σ.2 159 11) τ) (mad A) := by
  obtain ⟨a1, a2, a3, a4⟩ := h
  apply am_tk
  · exact a4
  · rw [a2, lI_0, lI_sub]; congr 1; simp only [mad]; omega
  · rw [a3, lI_0, lI_sub]; congr 1; simp only [mad]; omega
  · exact a1
theorem am_mi {σ τ : Sg} {A : Mx} (h : Am σ A) : Am (sX11_takes (σ.2 159 11) (0 - σ.2 159 12) (0 - σ.2 159 13) (σ.2 159 14) τ) (mmr A) := by
  obtain ⟨a1, a2, a3, a4⟩ := h
  apply am_tk
  · exact a1
  · rw [a2, lI_0, lI_sub]; congr 1; simp only [mmr]; omega
  · rw [a3, lI_0, lI_sub]; congr 1; simp only [mmr]; omega
  · exact a4
theorem now_lI {σ : Sg} {L : List Mx} {u : Nat} (h : Rep (σ.1 160) 1 L) (ok : okL L) (hu : u < L.length) : (σ.1 160 (1 + 4 * u)).toInt64 = lI (gq L u).1 ∧ (σ.1 160 (2 + 4 * u)).toInt64 = lI (gq L u).2.1 ∧ (σ.1 160 (3 + 4 * u)).toInt64 = lI (gq L u).2.2.1 ∧ (σ.1 160 (4 + 4 * u)).toInt64 = lI (gq L u).2.2.2 := by
  obtain ⟨t1, t2, t3, t4⟩ := am_tf (s := u) (x := 0) h ok hu
  unfold sX11_takesFrom at t1 t2 t3 t4
  refine ⟨?_, ?_, ?_, ?_⟩
  · rw [← t1]; simp [sX11_takes, u2]
  · rw [← t2]; simp [sX11_takes, u2]
  · rw [← t3]; simp [sX11_takes, u2]
  · rw [← t4]; simp [sX11_takes, u2]
theorem mulb {x y : Int} {X Y : Nat} (hx : x.natAbs ≤ X) (hy : y.natAbs ≤ Y) : (x * y).natAbs ≤ X * Y := by
  rw [Int.natAbs_mul]; exact Nat.mul_le_mul hx hy
theorem mm_bd {A B : Mx} {X Y : Nat} (hA : A.1.natAbs ≤ X ∧ A.2.1.natAbs ≤ X ∧ A.2.2.1.natAbs ≤ X ∧ A.2.2.2.natAbs ≤ X) (hB : B.1.natAbs ≤ Y ∧ B.2.1.natAbs ≤ Y ∧ B.2.2.1.natAbs ≤ Y ∧ B.2.2.2.natAbs ≤ Y) : (mm A B).1.natAbs ≤ 2 * (X * Y) ∧ (mm A B).2.1.natAbs ≤ 2 * (X * Y) ∧ (mm A B).2.2.1.natAbs ≤ 2 * (X * Y) ∧ (mm A B).2.2.2.natAbs ≤ 2 * (X * Y) := by
  obtain ⟨a1, a2, a3, a4⟩ := hA
  obtain ⟨b1, b2, b3, b4⟩ := hB
  unfold mm
  simp only
  have h1 := mulb a1 b1
  have h2 := mulb a2 b3
  have h3 := mulb a1 b2
  have h4 := mulb a2 b4
  have h5 := mulb a3 b1
  have h6 := mulb a4 b3
  have h7 := mulb a3 b2
  have h8 := mulb a4 b4
  omega
theorem bd_abs {A : Mx} (h : bdM A) : A.1.natAbs ≤ 1000000 ∧ A.2.1.natAbs ≤ 1000000 ∧ A.2.2.1.natAbs ≤ 1000000 ∧ A.2.2.2.natAbs ≤ 1000000 := by unfold bdM at h; omega
theorem rg_mm {A B : Mx} (hA : bdM A) (hB : bdM B) : rgM (mm A B) := by
  have := mm_bd (bd_abs hA) (bd_abs hB)
  unfold rgM rg
  omega
theorem mad_abs {A : Mx} (h : bdM A) : bdM (mad A) := by unfold bdM mad at *; simp only; omega
theorem mad_ok {A : Mx} (h : okM A) : okM (mad A) := ⟨by rw [mdt_ad]; exact h.1, mad_abs h.2⟩
theorem mmr_ok {A : Mx} (h : okM A) : okM (mmr A) := by
  refine ⟨?_, ?_⟩
  · have := h.1; unfold mdt mmr at *; simp only; rw [Int.neg_mul_neg]; exact this
  · have := h.2; unfold bdM mmr at *; simp only; omega
theorem mm_ok {A B : Mx} (hA : okM A) (hB : okM B) (h : bdM (mm A B)) : okM (mm A B) := ⟨by rw [mdt_mm, hA.1, hB.1]; rfl, h⟩
theorem rg_carry {A B : Mx} (hA : bdM A) (hB : bdM B) : rgM (mm (mm B A) (mad B)) := by
  have := mm_bd (mm_bd (bd_abs hB) (bd_abs hA)) (bd_abs (mad_abs hB))
  unfold rgM rg
  omega
theorem RCs.q {σ : Sg} {L : List Mx} {Q : List (List Mx)} {I : Ims} {T : List Int32} {fa : Int32} {B : Bk} {sd : Int32} (h : RCs σ (L, Q, I, T, fa, B, sd)) : ∃ q, RC σ L Q q I T fa B sd := h
/-- refused by both -/
theorem lo_tk {σ : Sg} {x y z w : Int64} : loS σ (sX11_takes x y z w σ) := fun a ha => ⟨rfl, by unfold sX11_takes; dsimp only; rw [u2k (by omega), u2k (by omega), u2k (by omega), u2k (by omega)]⟩
theorem lo_trans {σ τ ρ : Sg} (h : loS σ τ) (k : loS τ ρ) : loS σ ρ := fun a ha => ⟨(k a ha).1.trans (h a ha).1, (k a ha).2.trans (h a ha).2⟩
theorem RMs.tk {σ : Sg} {S : Ab} {x y z w : Int64} (h : RMs σ S) : RMs (sX11_takes x y z w σ) S := RM.fr (fun _ _ _ => rfl) h
theorem area_lI {A : Mx} (h : bdM A) : lI A.1 * lI A.2.2.2 - lI A.2.1 * lI A.2.2.1 = 1 ↔ mdt A = 1 := by
  rw [lI_mul, lI_mul, lI_sub, show (1 : Int64) = lI 1 from rfl]
  have h1 := mulb (bd_abs h).1 (bd_abs h).2.2.2
  have h2 := mulb (bd_abs h).2.1 (bd_abs h).2.2.1
  exact lI_eq (by unfold rg; omega) (by unfold rg; omega)
theorem k_put {σ : Sg} (h : Rel σ) (x1 x2 x3 x4 : Int32) : StK σ yX10_put cX10_put 5 yX11_put cX11_put 5 [.int x1, .int x2, .int x3, .int x4] := by
  obtain ⟨⟨L, Q, I, T, fa, B, sd⟩, h1, h2⟩ := h
  obtain ⟨q, hc⟩ := h1.q
  have sh := hc.1
  have ok := sh.2.1
  have hq := hc.2.1
  generalize hA : ((x1.toInt, x2.toInt, x3.toInt, x4.toInt) : Mx) = A
  have a1 : x1.toInt64 = lI A.1 := by rw [← hA]; rfl
  have a2 : x2.toInt64 = lI A.2.1 := by rw [← hA]; rfl
  have a3 : x3.toInt64 = lI A.2.2.1 := by rw [← hA]; rfl
  have a4 : x4.toInt64 = lI A.2.2.2 := by rw [← hA]; rfl
  have i32 : ∀ x : Int32, -2147483648 ≤ x.toInt ∧ x.toInt ≤ 2147483647 := fun x => ⟨Int32.le_toInt x, Int32.toInt_le x⟩
  have hr : rgM A := by
    rw [← hA]
    have q1 := i32 x1; have q2 := i32 x2; have q3 := i32 x3; have q4 := i32 x4
    unfold rgM rg
    simp only
    omega
  have at0 : At (sX6_set 152 x1.toInt64 x2.toInt64 x3.toInt64 x4.toInt64 σ) 152 A := at_sq a1 a2 a3 a4
  have rc0 : RC (sX6_set 152 x1.toInt64 x2.toInt64 x3.toInt64 x4.toInt64 σ) L Q q I T fa B sd := rc_tmp (by omega) hc
  have w0 := at_within at0 hr
  have ar : rX6_hasAreaOne 152 (sX6_set 152 x1.toInt64 x2.toInt64 x3.toInt64 x4.toInt64 σ) = true ↔ (lI A.1 * lI A.2.2.2 - lI A.2.1 * lI A.2.2.1 = 1) := by
    unfold rX6_hasAreaOne
    rw [at0.1, at0.2.1, at0.2.2.1, at0.2.2.2]
    by_cases c : (lI A.1 * lI A.2.2.2 - lI A.2.1 * lI A.2.2.1 : Int64) = 1
    · rw [if_pos c]; exact ⟨fun _ => c, fun _ => rfl⟩
    · rw [if_neg c]; exact ⟨fun z => absurd z (by decide), fun z => absurd z c⟩
  have fu := full_c rc0.1
  have hi0 : hiS σ (sX6_set 152 x1.toInt64 x2.toInt64 x3.toInt64 x4.toInt64 σ) := fun _ _ => rfl
  have evc := fun (l : Launch) (b : Nat) (cy : Nat → ClassId) (D : va_G) => ev_X10_put (l := l) (b := b) (cy := cy) (D := D) (d := 3) (x1 := x1) (x2 := x2) (x3 := x3) (x4 := x4) hq.2.1 hq.1 sh.1 ok.1
  have wm : ∀ ρ : Sg, ¬ bdM A → rX11_put Q.length L.length x1 x2 x3 x4 ρ = -1000000002 ∧ sX11_put Q.length L.length x1 x2 x3 x4 ρ = ρ := by
    intro ρ nb
    unfold rX11_put sX11_put
    rw [a1, a2, a3, a4, bd_lI hr.1, bd_lI hr.2.1, bd_lI hr.2.2.1, bd_lI hr.2.2.2]
    unfold bdM at nb
    by_cases c1 : -1000000 ≤ A.1 ∧ A.1 ≤ 1000000
    · rw [decide_eq_true c1, if_pos rfl, if_pos rfl]
      by_cases c2 : -1000000 ≤ A.2.1 ∧ A.2.1 ≤ 1000000
      · rw [decide_eq_true c2, if_pos rfl, if_pos rfl]
        by_cases c3 : -1000000 ≤ A.2.2.1 ∧ A.2.2.1 ≤ 1000000
        · rw [decide_eq_true c3, if_pos rfl, if_pos rfl]
          have c4 : ¬ (-1000000 ≤ A.2.2.2 ∧ A.2.2.2 ≤ 1000000) := fun c4 => nb ⟨c1, c2, c3, c4⟩
          rw [decide_eq_false c4, if_neg (by decide), if_neg (by decide)]
          exact ⟨rfl, rfl⟩
        · rw [decide_eq_false c3, if_neg (by decide), if_neg (by decide)]
          exact ⟨rfl, rfl⟩
      · rw [decide_eq_false c2, if_neg (by decide), if_neg (by decide)]
        exact ⟨rfl, rfl⟩
    · rw [decide_eq_false c1, if_neg (by decide), if_neg (by decide)]
      exact ⟨rfl, rfl⟩
  have bm : ∀ ρ : Sg, bdM A → rX11_put Q.length L.length x1 x2 x3 x4 ρ = (if (lI A.1 * lI A.2.2.2 - lI A.2.1 * lI A.2.2.1 : Int64) = 1 then (if (ρ.1 160 0 : Int32) = 12 then -1000000004 else rX11_puts Q.length L.length (sX11_takes (lI A.1) (lI A.2.1) (lI A.2.2.1) (lI A.2.2.2) ρ)) else -1000000003) ∧ sX11_put Q.length L.length x1 x2 x3 x4 ρ = (if (lI A.1 * lI A.2.2.2 - lI A.2.1 * lI A.2.2.1 : Int64) = 1 then (if (ρ.1 160 0 : Int32) = 12 then ρ else sX11_puts Q.length L.length (sX11_takes (lI A.1) (lI A.2.1) (lI A.2.2.1) (lI A.2.2.2) ρ)) else ρ) := by
    intro ρ ⟨c1, c2, c3, c4⟩
    unfold rX11_put sX11_put
    rw [a1, a2, a3, a4, bd_lI hr.1, bd_lI hr.2.1, bd_lI hr.2.2.1, bd_lI hr.2.2.2, decide_eq_true c1, decide_eq_true c2, decide_eq_true c3, decide_eq_true c4, if_pos rfl, if_pos rfl, if_pos rfl, if_pos rfl, if_pos rfl, if_pos rfl, if_pos rfl, if_pos rfl]
    exact ⟨rfl, rfl⟩
  have evm := fun (ρ : Sg) (hr' : RMs ρ (L, Q, I, T, fa, B, sd)) (l : Launch) (b : Nat) (cy : Nat → ClassId) (D : va_G) => ev_X11_put (l := l) (b := b) (cy := cy) (D := D) (d := 5) (x1 := x1) (x2 := x2) (x3 := x3) (x4 := x4) hr'.2.1.1 hr'.2.1.2.1 hr'.1.1 hr'.1.2.1
  by_cases b0 : bdM A
  · have arr := area_lI b0
    by_cases d1 : mdt A = 1
    · by_cases f : L.length = 12
      · refine StK.mk (F := (-1000000004, (L, Q, I, T, fa, B, sd))) h2 ?_ (fun ρ hr' => ?_)
        · refine StC.of evc ?_ ?_ ?_
          · unfold rX10_put; rw [if_pos (w0.mpr b0), if_pos (ar.mpr (arr.mpr d1)), if_pos (fu.mpr f)]
          · unfold sX10_put; rw [if_pos (w0.mpr b0), if_pos (ar.mpr (arr.mpr d1)), if_pos (fu.mpr f)]; exact ⟨q, rc0⟩
          · unfold sX10_put; rw [if_pos (w0.mpr b0), if_pos (ar.mpr (arr.mpr d1)), if_pos (fu.mpr f)]; exact hi0
        · refine StM.of (evm ρ hr') ?_ ?_ ?_
          · rw [(bm ρ b0).1, if_pos (arr.mpr d1), if_pos ((full_m hr'.1).mpr f)]
          · rw [(bm ρ b0).2, if_pos (arr.mpr d1), if_pos ((full_m hr'.1).mpr f)]; exact hr'
          · rw [(bm ρ b0).2, if_pos (arr.mpr d1), if_pos ((full_m hr'.1).mpr f)]; exact lo_rfl
      · have hn : L.length < 12 := by have := ok.1; omega
        refine StK.mk (F := (nI L.length, (L ++ [A], psh Q L, I, T, fa, B, sd))) h2 ?_ (fun ρ hr' => ?_)
        · obtain ⟨p1, p2, p3⟩ := rc_place rc0 hn at0 ⟨d1, b0⟩
          refine StC.of evc ?_ ?_ ?_
          · unfold rX10_put; rw [if_pos (w0.mpr b0), if_pos (ar.mpr (arr.mpr d1)), if_neg (fun z => f (fu.mp z))]; rfl
          · unfold sX10_put; rw [if_pos (w0.mpr b0), if_pos (ar.mpr (arr.mpr d1)), if_neg (fun z => f (fu.mp z))]; exact ⟨_, p1⟩
          · unfold sX10_put; rw [if_pos (w0.mpr b0), if_pos (ar.mpr (arr.mpr d1)), if_neg (fun z => f (fu.mp z))]; exact p2
        · obtain ⟨p1, p2, p3, p4⟩ := rm_puts (σ := sX11_takes (lI A.1) (lI A.2.1) (lI A.2.2.1) (lI A.2.2.2) ρ) (A := A) (RMs.tk hr') hn (am_tk rfl rfl rfl rfl)
          refine StM.of (evm ρ hr') ?_ ?_ ?_
          · rw [(bm ρ b0).1, if_pos (arr.mpr d1), if_neg (fun z => f ((full_m hr'.1).mp z))]; exact p1
          · rw [(bm ρ b0).2, if_pos (arr.mpr d1), if_neg (fun z => f ((full_m hr'.1).mp z))]; exact p2
          · rw [(bm ρ b0).2, if_pos (arr.mpr d1), if_neg (fun z => f ((full_m hr'.1).mp z))]
            exact lo_trans lo_tk (fun a ha => ⟨p4 a ha, by rw [p3]⟩)
    · refine StK.mk (F := (-1000000003, (L, Q, I, T, fa, B, sd))) h2 ?_ (fun ρ hr' => ?_)
      · refine StC.of evc ?_ ?_ ?_
        · unfold rX10_put; rw [if_pos (w0.mpr b0), if_neg (fun z => d1 (arr.mp (ar.mp z)))]
        · unfold sX10_put; rw [if_pos (w0.mpr b0), if_neg (fun z => d1 (arr.mp (ar.mp z)))]; exact ⟨q, rc0⟩
        · unfold sX10_put; rw [if_pos (w0.mpr b0), if_neg (fun z => d1 (arr.mp (ar.mp z)))]; exact hi0
      · refine StM.of (evm ρ hr') ?_ ?_ ?_
        · rw [(bm ρ b0).1, if_neg (fun z => d1 (arr.mp z))]
        · rw [(bm ρ b0).2, if_neg (fun z => d1 (arr.mp z))]; exact hr'
        · rw [(bm ρ b0).2, if_neg (fun z => d1 (arr.mp z))]; exact lo_rfl
  · refine StK.mk (F := (-1000000002, (L, Q, I, T, fa, B, sd))) h2 ?_ (fun ρ hr' => ?_)
    · refine StC.of evc ?_ ?_ ?_
      · unfold rX10_put; rw [if_neg (fun z => b0 (w0.mp z))]
      · unfold sX10_put; rw [if_neg (fun z => b0 (w0.mp z))]; exact ⟨q, rc0⟩
      · unfold sX10_put; rw [if_neg (fun z => b0 (w0.mp z))]; exact hi0
    · refine StM.of (evm ρ hr') ?_ ?_ ?_
      · exact (wm ρ b0).1
      · rw [(wm ρ b0).2]; exact hr'
      · rw [(wm ρ b0).2]; exact lo_rfl
theorem k_number {σ : Sg} (h : Rel σ) (x1 x2 : Int32) : StK σ yX10_number cX10_number 3 yX11_number cX11_number 3 [.int x1, .int x2] := by
  obtain ⟨⟨L, Q, I, T, fa, B, sd⟩, h1, h2⟩ := h
  obtain ⟨q, hc⟩ := h1.q
  have sh := hc.1
  have ok := sh.2.1
  have hh := has_c sh x1
  have y0 : x2 < 0 ↔ x2.toInt < 0 := Int32.lt_iff_toInt_lt
  have y4 : x2 < 4 ↔ x2.toInt < 4 := Int32.lt_iff_toInt_lt
  have i1 : ∀ ρ : Sg, rX11_in x2.toInt64 0 3 ρ = true ↔ 0 ≤ x2.toInt ∧ x2.toInt ≤ 3 := fun ρ => in_i
  have evc := fun (l : Launch) (b : Nat) (cy : Nat → ClassId) (D : va_G) => ev_X10_number (l := l) (b := b) (cy := cy) (D := D) (d := 6) (x1 := x1) (x2 := x2) sh.1 ok.1
  have evm := fun (ρ : Sg) (hr' : RMs ρ (L, Q, I, T, fa, B, sd)) (l : Launch) (b : Nat) (cy : Nat → ClassId) (D : va_G) => ev_X11_number (l := l) (b := b) (cy := cy) (D := D) (d := 5) (x1 := x1) (x2 := x2) hr'.1.1 hr'.1.2.1
  by_cases hs : hsx x1 L.length
  · obtain ⟨e1, e2⟩ := hsx_e hs
    by_cases hw : hsx x2 4
    · obtain ⟨f1, f2⟩ := hsx_e hw
      refine StK.mk (F := (iI (ent (gq L x1.toNatClampNeg) x2.toNatClampNeg) + 1000000, (L, Q, I, T, fa, B, sd))) h2 ?_ (fun ρ hr' => ?_)
      · refine StC.of evc ?_ h1 hi_rfl
        unfold rX10_number
        rw [if_pos (hh.mpr hs), if_neg (fun z => by have := y0.mp z; have := hw.1; omega), if_pos (y4.mpr hw.2)]
        have := rep_at sh.2.2 e2 f2
        rw [show 0 + (4 * x1.toNatClampNeg + x2.toNatClampNeg) = x1.toNatClampNeg * 4 + x2.toNatClampNeg by omega] at this
        rw [this]
      · refine StM.of (evm ρ hr') ?_ hr' lo_rfl
        unfold rX11_number
        rw [if_pos ((has_m hr'.1 x1).mpr hs), if_pos ((i1 ρ).mpr ⟨hw.1, by have := hw.2; omega⟩)]
        have := rep_at hr'.1.2.2 e2 f2
        dsimp only at this
        rw [show 1 + (4 * x1.toNatClampNeg + x2.toNatClampNeg) = 1 + 4 * x1.toNatClampNeg + x2.toNatClampNeg by omega] at this
        rw [this]
    · refine StK.mk (F := (-1000000002, (L, Q, I, T, fa, B, sd))) h2 ?_ (fun ρ hr' => ?_)
      · refine StC.of evc ?_ h1 hi_rfl
        unfold rX10_number
        rw [if_pos (hh.mpr hs)]
        by_cases c : x2 < 0
        · rw [if_pos c]
        · rw [if_neg c, if_neg (fun z => hw ⟨by have := mt y0.mpr c; omega, y4.mp z⟩)]
      · refine StM.of (evm ρ hr') ?_ hr' lo_rfl
        unfold rX11_number
        rw [if_pos ((has_m hr'.1 x1).mpr hs), if_neg (fun z => hw (by have := (i1 ρ).mp z; unfold hsx; omega))]
  · refine StK.mk (F := (-1000000001, (L, Q, I, T, fa, B, sd))) h2 ?_ (fun ρ hr' => ?_)
    · refine StC.of evc ?_ h1 hi_rfl
      unfold rX10_number
      rw [if_neg (fun z => hs (hh.mp z))]
    · refine StM.of (evm ρ hr') ?_ hr' lo_rfl
      unfold rX11_number
      rw [if_neg (fun z => hs ((has_m hr'.1 x1).mp z))]
theorem u2_at {α : Type} {f : Nat → Nat → α} {k j i : Nat} {v : α} : u2 f k j v k i = if i = j then v else f k i := by
  unfold u2
  by_cases c : i = j
  · rw [if_pos ⟨rfl, c⟩, if_pos c]
  · rw [if_neg (fun z => c z.2), if_neg c]
theorem gb_app {B : Bk} {p : Int32 × Int32 × Bool} {i : Nat} (h : i ≤ B.length) : gb (B ++ [p]) i = if i < B.length then gb B i else p := by
  unfold gb; exact getD_app h
theorem k_note {σ : Sg} (h : Rel σ) (x1 x2 : Int32) (x3 : Bool) : StK σ yX10_note cX10_note 4 yX11_note cX11_note 4 [.int x1, .int x2, .int (bI x3)] := by
  obtain ⟨⟨L, Q, I, T, fa, B, sd⟩, h1, h2⟩ := h
  obtain ⟨q, hc⟩ := h1.q
  have sh := hc.1
  have hh1 := has_c sh x1
  have hh2 := has_c sh x2
  obtain ⟨b1, b2, b3⟩ := hc.2.2.2.2.1
  have evc := fun (l : Launch) (b : Nat) (cy : Nat → ClassId) (D : va_G) => ev_X10_note (l := l) (b := b) (cy := cy) (D := D) (d := 5) (x1 := x1) (x2 := x2) (x3 := x3) b1 b2
  have evm := fun (ρ : Sg) (hr' : RMs ρ (L, Q, I, T, fa, B, sd)) (l : Launch) (b : Nat) (cy : Nat → ClassId) (D : va_G) => ev_X11_note (l := l) (b := b) (cy := cy) (D := D) (d := 5) (x1 := x1) (x2 := x2) (x3 := x3) hr'.1.1 hr'.1.2.1 hr'.2.2.2.2.1.1 b2
  have fu : rX0_isFull σ = true ↔ B.length = 20 := by
    unfold rX0_isFull
    rw [b1, show (20 : Int32) = nI 20 from rfl]
    have e := nI_ltI (a := B.length) (b := 20) (by omega) (by omega)
    by_cases c : B.length < 20
    · rw [if_pos (e.mpr c)]; exact ⟨fun z => absurd z (by decide), fun z => by omega⟩
    · rw [if_neg (fun z => c (e.mp z))]; exact ⟨fun _ => by omega, fun _ => rfl⟩
  have fum : ∀ ρ : Sg, RMs ρ (L, Q, I, T, fa, B, sd) → (ρ.1 159 10 = 20 ↔ B.length = 20) := fun ρ hr => by
    have n1 : ρ.1 159 10 = nI B.length := hr.2.2.2.2.1.1
    rw [n1, show (20 : Int32) = nI 20 from rfl]; exact nIe (by omega) (by omega)
  by_cases hs : hsx x1 L.length ∧ hsx x2 L.length
  · obtain ⟨s1, s2⟩ := hs
    by_cases f : B.length = 20
    · refine StK.mk (F := (-1000000004, (L, Q, I, T, fa, B, sd))) h2 ?_ (fun ρ hr' => ?_)
      · refine StC.of evc ?_ ?_ ?_
        · unfold rX10_note; rw [if_pos (hh1.mpr s1), if_pos (hh2.mpr s2), if_pos (fu.mpr f)]
        · unfold sX10_note; rw [if_pos (hh1.mpr s1), if_pos (hh2.mpr s2), if_pos (fu.mpr f)]; exact h1
        · unfold sX10_note; rw [if_pos (hh1.mpr s1), if_pos (hh2.mpr s2), if_pos (fu.mpr f)]; exact hi_rfl
      · refine StM.of (evm ρ hr') ?_ ?_ ?_
        · unfold rX11_note; rw [if_pos ((has_m hr'.1 x1).mpr s1), if_pos ((has_m hr'.1 x2).mpr s2), if_pos ((fum ρ hr').mpr f)]
        · unfold sX11_note; rw [if_pos ((has_m hr'.1 x1).mpr s1), if_pos ((has_m hr'.1 x2).mpr s2), if_pos ((fum ρ hr').mpr f)]; exact hr'
        · unfold sX11_note; rw [if_pos ((has_m hr'.1 x1).mpr s1), if_pos ((has_m hr'.1 x2).mpr s2), if_pos ((fum ρ hr').mpr f)]; exact lo_rfl
    · have nf : ¬ rX0_isFull σ = true := fun z => f (fu.mp z)
      refine StK.mk (F := (nI (B.length + 1), (L, Q, I, T, fa, B ++ [(x1, x2, x3)], sd))) h2 ?_ (fun ρ hr' => ?_)
      · have e1 : sX10_note B.length x1 x2 x3 σ = (u2 (u2 (u2 (u2 σ.1 48 B.length x1) 49 B.length x2) 50 B.length (bI x3)) 47 3 (nI (B.length + 1)), σ.2) := by
          unfold sX10_note sX0_append
          rw [if_pos (hh1.mpr s1), if_pos (hh2.mpr s2), if_neg nf, if_neg nf, u2_k (by decide), u2_k (by decide), u2_k (by decide), b1, nI_1]
        refine StC.of evc ?_ ?_ ?_
        · unfold rX10_note
          rw [if_pos (hh1.mpr s1), if_pos (hh2.mpr s2), if_neg nf]
          unfold rX0_length sX0_append
          rw [if_neg nf]
          dsimp only
          rw [u2_eq, u2_k (by decide), u2_k (by decide), u2_k (by decide), b1, nI_1]
        · rw [e1]
          refine ⟨q, RC.book (σ := σ) (fun a _ ha => ?_) rfl ⟨?_, ?_, fun i hi => ?_⟩ hc⟩
          all_goals dsimp only
          · rw [u2k (by omega), u2k (by omega), u2k (by omega), u2k (by omega)]
          · rw [u2_eq, List.length_append, List.length_singleton]
          · rw [List.length_append, List.length_singleton]; omega
          · rw [List.length_append, List.length_singleton] at hi
            rw [gb_app (by omega)]
            have k48 : (u2 (u2 (u2 (u2 σ.1 48 B.length x1) 49 B.length x2) 50 B.length (bI x3)) 47 3 (nI (B.length + 1))) 48 i = u2 σ.1 48 B.length x1 48 i := by rw [u2_k (by decide), u2_k (by decide), u2_k (by decide)]
            have k49 : (u2 (u2 (u2 (u2 σ.1 48 B.length x1) 49 B.length x2) 50 B.length (bI x3)) 47 3 (nI (B.length + 1))) 49 i = u2 (u2 σ.1 48 B.length x1) 49 B.length x2 49 i := by rw [u2_k (by decide), u2_k (by decide)]
            have k50 : (u2 (u2 (u2 (u2 σ.1 48 B.length x1) 49 B.length x2) 50 B.length (bI x3)) 47 3 (nI (B.length + 1))) 50 i = u2 (u2 (u2 σ.1 48 B.length x1) 49 B.length x2) 50 B.length (bI x3) 50 i := by rw [u2_k (by decide)]
            rw [k48, k49, k50, u2_at, u2_at, u2_at, u2_k (show 49 ≠ 48 by decide), u2_k (show 50 ≠ 49 by decide), u2_k (show 50 ≠ 48 by decide)]
            by_cases c : i < B.length
            · rw [if_pos c, if_neg (by omega), if_neg (by omega), if_neg (by omega)]
              exact b3 i c
            · rw [if_neg c, if_pos (by omega), if_pos (by omega), if_pos (by omega)]
              exact ⟨rfl, rfl, rfl⟩
        · rw [e1]; intro a ha; dsimp only; rw [u2k (by omega), u2k (by omega), u2k (by omega), u2k (by omega)]
      · obtain ⟨n1, n3⟩ := hr'.2.2.2.2.1
        dsimp only at n1 n3
        have nfm : ¬ ρ.1 159 10 = 20 := fun z => f ((fum ρ hr').mp z)
        have e1 : sX11_note L.length B.length x1 x2 x3 ρ = (u2 (u2 (u2 (u2 ρ.1 165 (3 * B.length) x1) 165 (3 * B.length + 1) x2) 165 (3 * B.length + 2) (bI x3)) 159 10 (nI (B.length + 1)), ρ.2) := by
          unfold sX11_note
          rw [if_pos ((has_m hr'.1 x1).mpr s1), if_pos ((has_m hr'.1 x2).mpr s2), if_neg nfm]
          cases x3
          · rw [if_neg (by decide), u2_k (by decide), u2_k (by decide), u2_k (by decide), n1, nI_1]; rfl
          · rw [if_pos rfl, u2_k (by decide), u2_k (by decide), u2_k (by decide), n1, nI_1]; rfl
        have e2 : rX11_note L.length B.length x1 x2 x3 ρ = nI (B.length + 1) := by
          unfold rX11_note
          rw [if_pos ((has_m hr'.1 x1).mpr s1), if_pos ((has_m hr'.1 x2).mpr s2), if_neg nfm]
          cases x3
          · rw [if_neg (by decide), u2_eq, u2_k (by decide), u2_k (by decide), u2_k (by decide), n1, nI_1]
          · rw [if_pos rfl, u2_eq, u2_k (by decide), u2_k (by decide), u2_k (by decide), n1, nI_1]
        refine StM.of (evm ρ hr') e2 ?_ ?_
        · rw [e1]
          refine RM.book (fun a h160 h166 _ => ?_) (fun j hj => ?_) ⟨?_, fun i hi => ?_⟩ hr'
          all_goals dsimp only
          · rw [u2k h160, u2k h166, u2k h166, u2k h166]
          · rw [u2_j hj, u2_k (by decide), u2_k (by decide), u2_k (by decide)]
          · rw [u2_eq, List.length_append, List.length_singleton]
          · rw [List.length_append, List.length_singleton] at hi
            have kk : ∀ m, (u2 (u2 (u2 (u2 ρ.1 165 (3 * B.length) x1) 165 (3 * B.length + 1) x2) 165 (3 * B.length + 2) (bI x3)) 159 10 (nI (B.length + 1))) 165 m = if m = 3 * B.length + 2 then bI x3 else if m = 3 * B.length + 1 then x2 else if m = 3 * B.length then x1 else ρ.1 165 m := fun m => by rw [u2_k (by decide), u2_at, u2_at, u2_at]
            rw [gb_app (by omega), kk, kk, kk]
            by_cases c : i < B.length
            · rw [if_pos c, if_neg (by omega), if_neg (by omega), if_neg (by omega), if_neg (by omega), if_neg (by omega), if_neg (by omega), if_neg (by omega), if_neg (by omega), if_neg (by omega)]
              exact n3 i c
            · have ei : i = B.length := by omega
              subst ei
              rw [if_neg c]
              refine ⟨?_, ?_, ?_⟩
              · rw [if_neg (by omega), if_neg (by omega), if_pos rfl]
              · rw [if_neg (by omega), if_pos rfl]
              · rw [if_pos rfl]
        · rw [e1]; intro a ha; dsimp only; exact ⟨by rw [u2k (by omega), u2k (by omega), u2k (by omega), u2k (by omega)], rfl⟩
  · refine StK.mk (F := (-1000000001, (L, Q, I, T, fa, B, sd))) h2 ?_ (fun ρ hr' => ?_)
    · have nn : ¬ (rX5_has 1 2 x1 σ = true ∧ rX5_has 1 2 x2 σ = true) := fun z => hs ⟨hh1.mp z.1, hh2.mp z.2⟩
      have e1 : sX10_note B.length x1 x2 x3 σ = σ := by
        unfold sX10_note
        by_cases c1 : rX5_has 1 2 x1 σ = true
        · rw [if_pos c1, if_neg (fun z => nn ⟨c1, z⟩)]
        · rw [if_neg c1]
      refine StC.of evc ?_ (by rw [e1]; exact h1) (by rw [e1]; exact hi_rfl)
      unfold rX10_note
      by_cases c1 : rX5_has 1 2 x1 σ = true
      · rw [if_pos c1, if_neg (fun z => nn ⟨c1, z⟩)]
      · rw [if_neg c1]
    · have nn : ¬ (rX11_isSquare x1 ρ = true ∧ rX11_isSquare x2 ρ = true) := fun z => hs ⟨(has_m hr'.1 x1).mp z.1, (has_m hr'.1 x2).mp z.2⟩
      have e1 : sX11_note L.length B.length x1 x2 x3 ρ = ρ := by
        unfold sX11_note
        by_cases c1 : rX11_isSquare x1 ρ = true
        · rw [if_pos c1, if_neg (fun z => nn ⟨c1, z⟩)]
        · rw [if_neg c1]
      refine StM.of (evm ρ hr') ?_ (by rw [e1]; exact hr') (by rw [e1]; exact lo_rfl)
      unfold rX11_note
      by_cases c1 : rX11_isSquare x1 ρ = true
      · rw [if_pos c1, if_neg (fun z => nn ⟨c1, z⟩)]
      · rw [if_neg c1]
end
