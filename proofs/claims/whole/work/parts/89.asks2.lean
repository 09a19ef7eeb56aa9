noncomputable section
theorem k_square {σ : Sg} (h : Rel σ) (x1 x2 : Int32) : StK σ yX10_square cX10_square 4 yX11_square cX11_square 4 [.int x1, .int x2] := by
  obtain ⟨⟨L, Q, I, T, fa, B, sd⟩, h1, h2⟩ := h
  obtain ⟨q, hc⟩ := h1.q
  have sh := hc.1
  have ok := sh.2.1
  have hh1 := has_c sh x1
  obtain ⟨w1, w2⟩ := hc.2.2.2.2.2.2.w
  obtain ⟨l1, l2, l3⟩ := la_ok hc
  have evc := fun (l : Launch) (b : Nat) (cy : Nat → ClassId) (D : va_G) => ev_X10_square (l := l) (b := b) (cy := cy) (D := D) (d := 1) (x1 := x1) (x2 := x2) sh.1 ok.1 w1 w2
  have evm := fun (ρ : Sg) (hr' : RMs ρ (L, Q, I, T, fa, B, sd)) (l : Launch) (b : Nat) (cy : Nat → ClassId) (D : va_G) => ev_X11_square (l := l) (b := b) (cy := cy) (D := D) (d := 1) (x1 := x1) (x2 := x2) (now_ok hr'.1 ok) ok.1 hr'.1.1
  have i1 : ∀ ρ : Sg, rX11_in x2.toInt64 0 10 ρ = true ↔ 0 ≤ x2.toInt ∧ x2.toInt ≤ 10 := fun ρ => in_i
  by_cases s1 : hsx x1 L.length
  · obtain ⟨_, e1⟩ := hsx_e s1
    obtain ⟨p0, p1, p2, p3, p4, p5, p6, p10⟩ := sq_c ok l2 e1
    obtain ⟨t1, t2, t3, t4⟩ := tw_c x1 l1 l2 e1
    obtain ⟨m1, m2, m3⟩ := mi_c x1 l1 l2 e1
    have fm := fam_c ok l2 e1 L.length 0 0 (by omega)
    -- the class's answer and end, for each what
    have cls : ∀ z : Int32, rX10_square L.length x1 x2 σ = z → RC (sX10_square L.length x1 x2 σ) L Q q I T fa B sd → hiS σ (sX10_square L.length x1 x2 σ) → StC σ yX10_square cX10_square 4 [.int x1, .int x2] (z, (L, Q, I, T, fa, B, sd)) := fun z e r f => StC.of evc e ⟨q, r⟩ f
    have mod : ∀ (z : Int32) (ρ : Sg), RMs ρ (L, Q, I, T, fa, B, sd) → rX11_square L.length x1 x2 ρ = z → Kq I10 L10 ρ (sX11_square L.length x1 x2 ρ) → StM ρ yX11_square cX11_square 4 [.int x1, .int x2] (z, (L, Q, I, T, fa, B, sd)) := fun z ρ hr' e k => StM.of (evm ρ hr') e (hr'.kq k) (lo_kq k)
    -- the reference's small ones
    have sm' : ∀ (ρ : Sg), RMs ρ (L, Q, I, T, fa, B, sd) → 0 ≤ x2.toInt ∧ x2.toInt ≤ 10 → ¬ x2 = 7 → ¬ x2 = 9 → ¬ x2 = 8 → rX11_square L.length x1 x2 ρ = sqA (gq L x1.toNatClampNeg) x2 ∧ Kq I10 L10 ρ (sX11_square L.length x1 x2 ρ) := by
      intro ρ hr' hx c7 c9 c8
      obtain ⟨g1, g2⟩ := of_m x1 x2 hr'.1 ok e1
      unfold rX11_square sX11_square
      rw [if_pos ((has_m hr'.1 x1).mpr s1), if_pos ((i1 ρ).mpr hx), if_neg c7, if_neg c9, if_neg c8, if_pos ((has_m hr'.1 x1).mpr s1), if_pos ((i1 ρ).mpr hx), if_neg c7, if_neg c9, if_neg c8]
      exact ⟨g1, g2⟩
    by_cases e0 : x2 = 0
    · subst e0
      refine StK.mk h2 (cls (sqA (gq L x1.toNatClampNeg) 0) ?_ ?_ ?_) (fun ρ hr' => mod _ ρ hr' (sm' ρ hr' (by decide) (by decide) (by decide) (by decide)).1 (sm' ρ hr' (by decide) (by decide) (by decide) (by decide)).2)
      · unfold rX10_square; rw [if_pos (hh1.mpr s1), if_pos rfl]; exact p0
      · unfold sX10_square; rw [if_pos (hh1.mpr s1), if_pos rfl]; exact l1
      · unfold sX10_square; rw [if_pos (hh1.mpr s1), if_pos rfl]; exact l3
    by_cases e1' : x2 = 1
    · subst e1'
      refine StK.mk h2 (cls (sqA (gq L x1.toNatClampNeg) 1) ?_ ?_ ?_) (fun ρ hr' => mod _ ρ hr' (sm' ρ hr' (by decide) (by decide) (by decide) (by decide)).1 (sm' ρ hr' (by decide) (by decide) (by decide) (by decide)).2)
      · unfold rX10_square; rw [if_pos (hh1.mpr s1), if_neg e0, if_pos rfl]; exact p1
      · unfold sX10_square; rw [if_pos (hh1.mpr s1), if_neg e0, if_pos rfl]; exact l1
      · unfold sX10_square; rw [if_pos (hh1.mpr s1), if_neg e0, if_pos rfl]; exact l3
    by_cases e2 : x2 = 2
    · subst e2
      refine StK.mk h2 (cls (sqA (gq L x1.toNatClampNeg) 2) ?_ ?_ ?_) (fun ρ hr' => mod _ ρ hr' (sm' ρ hr' (by decide) (by decide) (by decide) (by decide)).1 (sm' ρ hr' (by decide) (by decide) (by decide) (by decide)).2)
      · unfold rX10_square; rw [if_pos (hh1.mpr s1), if_neg e0, if_neg e1', if_pos rfl]; exact p2
      · unfold sX10_square; rw [if_pos (hh1.mpr s1), if_neg e0, if_neg e1', if_pos rfl]; exact l1
      · unfold sX10_square; rw [if_pos (hh1.mpr s1), if_neg e0, if_neg e1', if_pos rfl]; exact l3
    by_cases e3 : x2 = 3
    · subst e3
      refine StK.mk h2 (cls (sqA (gq L x1.toNatClampNeg) 3) ?_ ?_ ?_) (fun ρ hr' => mod _ ρ hr' (sm' ρ hr' (by decide) (by decide) (by decide) (by decide)).1 (sm' ρ hr' (by decide) (by decide) (by decide) (by decide)).2)
      · unfold rX10_square; rw [if_pos (hh1.mpr s1), if_neg e0, if_neg e1', if_neg e2, if_pos rfl]; exact p3
      · unfold sX10_square; rw [if_pos (hh1.mpr s1), if_neg e0, if_neg e1', if_neg e2, if_pos rfl]; exact l1
      · unfold sX10_square; rw [if_pos (hh1.mpr s1), if_neg e0, if_neg e1', if_neg e2, if_pos rfl]; exact l3
    by_cases e4 : x2 = 4
    · subst e4
      refine StK.mk h2 (cls (sqA (gq L x1.toNatClampNeg) 4) ?_ ?_ ?_) (fun ρ hr' => mod _ ρ hr' (sm' ρ hr' (by decide) (by decide) (by decide) (by decide)).1 (sm' ρ hr' (by decide) (by decide) (by decide) (by decide)).2)
      · unfold rX10_square; rw [if_pos (hh1.mpr s1), if_neg e0, if_neg e1', if_neg e2, if_neg e3, if_pos rfl]; exact p4
      · unfold sX10_square; rw [if_pos (hh1.mpr s1), if_neg e0, if_neg e1', if_neg e2, if_neg e3, if_pos rfl]; split <;> exact l1
      · unfold sX10_square; rw [if_pos (hh1.mpr s1), if_neg e0, if_neg e1', if_neg e2, if_neg e3, if_pos rfl]; split <;> exact l3
    by_cases e5 : x2 = 5
    · subst e5
      refine StK.mk h2 (cls (sqA (gq L x1.toNatClampNeg) 5) ?_ ?_ ?_) (fun ρ hr' => mod _ ρ hr' (sm' ρ hr' (by decide) (by decide) (by decide) (by decide)).1 (sm' ρ hr' (by decide) (by decide) (by decide) (by decide)).2)
      · unfold rX10_square; rw [if_pos (hh1.mpr s1), if_neg e0, if_neg e1', if_neg e2, if_neg e3, if_neg e4, if_pos rfl]; exact p5
      · unfold sX10_square; rw [if_pos (hh1.mpr s1), if_neg e0, if_neg e1', if_neg e2, if_neg e3, if_neg e4, if_pos rfl]; exact l1
      · unfold sX10_square; rw [if_pos (hh1.mpr s1), if_neg e0, if_neg e1', if_neg e2, if_neg e3, if_neg e4, if_pos rfl]; exact l3
    by_cases e6 : x2 = 6
    · subst e6
      refine StK.mk h2 (cls (sqA (gq L x1.toNatClampNeg) 6) ?_ ?_ ?_) (fun ρ hr' => mod _ ρ hr' (sm' ρ hr' (by decide) (by decide) (by decide) (by decide)).1 (sm' ρ hr' (by decide) (by decide) (by decide) (by decide)).2)
      · unfold rX10_square; rw [if_pos (hh1.mpr s1), if_neg e0, if_neg e1', if_neg e2, if_neg e3, if_neg e4, if_neg e5, if_pos rfl]; exact p6
      · unfold sX10_square; rw [if_pos (hh1.mpr s1), if_neg e0, if_neg e1', if_neg e2, if_neg e3, if_neg e4, if_neg e5, if_pos rfl]; exact l1
      · unfold sX10_square; rw [if_pos (hh1.mpr s1), if_neg e0, if_neg e1', if_neg e2, if_neg e3, if_neg e4, if_neg e5, if_pos rfl]; exact l3
    by_cases e7 : x2 = 7
    · subst e7
      refine StK.mk h2 (cls (if alk (gq L x1.toNatClampNeg) (mad (gq L x1.toNatClampNeg)) = true then 1 else 0) ?_ ?_ ?_) (fun ρ hr' => ?_)
      · unfold rX10_square; rw [if_pos (hh1.mpr s1), if_neg e0, if_neg e1', if_neg e2, if_neg e3, if_neg e4, if_neg e5, if_neg e6, if_pos rfl, t1]
      · unfold sX10_square; rw [if_pos (hh1.mpr s1), if_neg e0, if_neg e1', if_neg e2, if_neg e3, if_neg e4, if_neg e5, if_neg e6, if_pos rfl]; split <;> exact t2
      · unfold sX10_square; rw [if_pos (hh1.mpr s1), if_neg e0, if_neg e1', if_neg e2, if_neg e3, if_neg e4, if_neg e5, if_neg e6, if_pos rfl]; split <;> exact fun a ha => (t4 a ha).trans (l3 a ha)
      · obtain ⟨g1, g2⟩ := tw_m x1 hr'.1 ok e1
        refine mod _ ρ hr' ?_ ?_
        · unfold rX11_square; rw [if_pos ((has_m hr'.1 x1).mpr s1), if_pos ((i1 ρ).mpr (by decide)), if_pos rfl]; rw [show (L, Q, I, T, fa, B, sd).1 = L from rfl] at g1; rw [g1]
        · unfold sX11_square; rw [if_pos ((has_m hr'.1 x1).mpr s1), if_pos ((i1 ρ).mpr (by decide)), if_pos rfl]; split <;> exact g2
    by_cases e8 : x2 = 8
    · subst e8
      refine StK.mk h2 (cls (famA L x1.toNatClampNeg L.length 0 0) ?_ ?_ ?_) (fun ρ hr' => ?_)
      · unfold rX10_square; rw [if_pos (hh1.mpr s1), if_neg e0, if_neg e1', if_neg e2, if_neg e3, if_neg e4, if_neg e5, if_neg e6, if_neg e7, if_pos rfl]; exact fm
      · unfold sX10_square; rw [if_pos (hh1.mpr s1), if_neg e0, if_neg e1', if_neg e2, if_neg e3, if_neg e4, if_neg e5, if_neg e6, if_neg e7, if_pos rfl]; exact l1
      · unfold sX10_square; rw [if_pos (hh1.mpr s1), if_neg e0, if_neg e1', if_neg e2, if_neg e3, if_neg e4, if_neg e5, if_neg e6, if_neg e7, if_pos rfl]; exact l3
      · obtain ⟨g1, g2⟩ := fy_m x1 hr'.1 ok e1
        refine mod _ ρ hr' ?_ ?_
        · unfold rX11_square; rw [if_pos ((has_m hr'.1 x1).mpr s1), if_pos ((i1 ρ).mpr (by decide)), if_neg (by decide), if_neg (by decide), if_pos rfl]; exact g1
        · unfold sX11_square; rw [if_pos ((has_m hr'.1 x1).mpr s1), if_pos ((i1 ρ).mpr (by decide)), if_neg (by decide), if_neg (by decide), if_pos rfl]; exact g2
    by_cases e9 : x2 = 9
    · subst e9
      refine StK.mk h2 (cls (if alk (gq L x1.toNatClampNeg) (mmr (gq L x1.toNatClampNeg)) = true then 1 else 0) ?_ ?_ ?_) (fun ρ hr' => ?_)
      · unfold rX10_square; rw [if_pos (hh1.mpr s1), if_neg e0, if_neg e1', if_neg e2, if_neg e3, if_neg e4, if_neg e5, if_neg e6, if_neg e7, if_neg e8, if_pos rfl, m1]
      · unfold sX10_square; rw [if_pos (hh1.mpr s1), if_neg e0, if_neg e1', if_neg e2, if_neg e3, if_neg e4, if_neg e5, if_neg e6, if_neg e7, if_neg e8, if_pos rfl]; split <;> exact m2
      · unfold sX10_square; rw [if_pos (hh1.mpr s1), if_neg e0, if_neg e1', if_neg e2, if_neg e3, if_neg e4, if_neg e5, if_neg e6, if_neg e7, if_neg e8, if_pos rfl]; split <;> exact fun a ha => (m3 a ha).trans (l3 a ha)
      · obtain ⟨g1, g2⟩ := mi_m x1 hr'.1 ok e1
        refine mod _ ρ hr' ?_ ?_
        · unfold rX11_square; rw [if_pos ((has_m hr'.1 x1).mpr s1), if_pos ((i1 ρ).mpr (by decide)), if_neg (by decide), if_pos rfl]; rw [show (L, Q, I, T, fa, B, sd).1 = L from rfl] at g1; rw [g1]
        · unfold sX11_square; rw [if_pos ((has_m hr'.1 x1).mpr s1), if_pos ((i1 ρ).mpr (by decide)), if_neg (by decide), if_pos rfl]; split <;> exact g2
    by_cases e10 : x2 = 10
    · subst e10
      refine StK.mk h2 (cls (sqA (gq L x1.toNatClampNeg) 10) ?_ ?_ ?_) (fun ρ hr' => mod _ ρ hr' (sm' ρ hr' (by decide) (by decide) (by decide) (by decide)).1 (sm' ρ hr' (by decide) (by decide) (by decide) (by decide)).2)
      · unfold rX10_square; rw [if_pos (hh1.mpr s1), if_neg e0, if_neg e1', if_neg e2, if_neg e3, if_neg e4, if_neg e5, if_neg e6, if_neg e7, if_neg e8, if_neg e9, if_pos rfl]; exact p10
      · unfold sX10_square; rw [if_pos (hh1.mpr s1), if_neg e0, if_neg e1', if_neg e2, if_neg e3, if_neg e4, if_neg e5, if_neg e6, if_neg e7, if_neg e8, if_neg e9, if_pos rfl]; exact l1
      · unfold sX10_square; rw [if_pos (hh1.mpr s1), if_neg e0, if_neg e1', if_neg e2, if_neg e3, if_neg e4, if_neg e5, if_neg e6, if_neg e7, if_neg e8, if_neg e9, if_pos rfl]; exact l3
    have nx : ¬ (0 ≤ x2.toInt ∧ x2.toInt ≤ 10) := fun hx => by
      obtain ⟨f1, f2⟩ := hsx_e (x := x2) (n := 11) ⟨hx.1, by have := hx.2; omega⟩
      have all : ∀ n, n < 11 → nI n = 0 ∨ nI n = 1 ∨ nI n = 2 ∨ nI n = 3 ∨ nI n = 4 ∨ nI n = 5 ∨ nI n = 6 ∨ nI n = 7 ∨ nI n = 8 ∨ nI n = 9 ∨ nI n = 10 := by decide +kernel
      have := all _ f2
      rw [← f1] at this
      rcases this with z | z | z | z | z | z | z | z | z | z | z
      · exact e0 z
      · exact e1' z
      · exact e2 z
      · exact e3 z
      · exact e4 z
      · exact e5 z
      · exact e6 z
      · exact e7 z
      · exact e8 z
      · exact e9 z
      · exact e10 z
    refine StK.mk h2 (cls (-1000000002) ?_ ?_ ?_) (fun ρ hr' => mod _ ρ hr' ?_ ?_)
    · unfold rX10_square; rw [if_pos (hh1.mpr s1), if_neg e0, if_neg e1', if_neg e2, if_neg e3, if_neg e4, if_neg e5, if_neg e6, if_neg e7, if_neg e8, if_neg e9, if_neg e10]
    · unfold sX10_square; rw [if_pos (hh1.mpr s1), if_neg e0, if_neg e1', if_neg e2, if_neg e3, if_neg e4, if_neg e5, if_neg e6, if_neg e7, if_neg e8, if_neg e9, if_neg e10]; exact l1
    · unfold sX10_square; rw [if_pos (hh1.mpr s1), if_neg e0, if_neg e1', if_neg e2, if_neg e3, if_neg e4, if_neg e5, if_neg e6, if_neg e7, if_neg e8, if_neg e9, if_neg e10]; exact l3
    · unfold rX11_square; rw [if_pos ((has_m hr'.1 x1).mpr s1), if_neg (fun z => nx ((i1 ρ).mp z))]
    · unfold sX11_square; rw [if_pos ((has_m hr'.1 x1).mpr s1), if_neg (fun z => nx ((i1 ρ).mp z))]; exact Kq.rfl
  · refine StK.mk (F := (-1000000001, (L, Q, I, T, fa, B, sd))) h2 ?_ (fun ρ hr' => ?_)
    · have n1 : ¬ rX5_has 1 2 x1 σ = true := fun z => s1 (hh1.mp z)
      refine StC.of evc (if_neg n1) (by unfold sX10_square; rw [if_neg n1]; exact h1) (by unfold sX10_square; rw [if_neg n1]; exact hi_rfl)
    · have n1 : ¬ rX11_isSquare x1 ρ = true := fun z => s1 ((has_m hr'.1 x1).mp z)
      refine StM.of (evm ρ hr') (if_neg n1) (by unfold sX11_square; rw [if_neg n1]; exact hr') (by unfold sX11_square; rw [if_neg n1]; exact lo_rfl)
theorem k_run {σ : Sg} (h : Rel σ) (x1 x2 : Int32) : StK σ yX10_run cX10_run 3 yX11_run cX11_run 3 [.int x1, .int x2] := by
  obtain ⟨⟨L, Q, I, T, fa, B, sd⟩, h1, h2⟩ := h
  obtain ⟨q, hc⟩ := h1.q
  have sh := hc.1
  have ok := sh.2.1
  have hh1 := has_c sh x1
  obtain ⟨w1, w2⟩ := hc.2.2.2.2.2.2.w
  obtain ⟨l1, l2, l3⟩ := la_ok hc
  have evc := fun (l : Launch) (b : Nat) (cy : Nat → ClassId) (D : va_G) => ev_X10_run (l := l) (b := b) (cy := cy) (D := D) (d := 1) (x1 := x1) (x2 := x2) sh.1 ok.1 w1
  have evm := fun (ρ : Sg) (hr' : RMs ρ (L, Q, I, T, fa, B, sd)) (l : Launch) (b : Nat) (cy : Nat → ClassId) (D : va_G) => ev_X11_run (l := l) (b := b) (cy := cy) (D := D) (d := 3) (x1 := x1) (x2 := x2) (now_ok hr'.1 ok) ok.1 hr'.1.1
  have x0 : x2 < 0 ↔ x2.toInt < 0 := Int32.lt_iff_toInt_lt
  by_cases s1 : hsx x1 L.length
  · obtain ⟨_, e1⟩ := hsx_e s1
    have oA := okL_at ok e1
    have lw := (whl_sb oA).2.1
    refine StK.mk (F := (@ite _ (hsx x2 (whl (gq L x1.toNatClampNeg)).length) (Classical.propDecidable _) (nI ((whl (gq L x1.toNatClampNeg)).getD x2.toNatClampNeg 0)) (-1), (L, Q, I, T, fa, B, sd))) h2 ?_ (fun ρ hr' => ?_)
    · refine StC.of evc ?_ ?_ ?_
      · obtain ⟨a1, a2, a3, ws, t, b1, b2, b3, b4, b5, b6, b7, b8, b9, b10⟩ := l2 _ e1
        have tle : t ≤ ws.length := by rcases b7 with z | ⟨z1, z2⟩ <;> omega
        have lw2 : (whl (gq L x1.toNatClampNeg)).length = ws.length := by rw [b1, rtl_len]
        have ec : cnt (laR L.length σ) (65 + 7 * x1.toNatClampNeg + 2) = ws.length := by unfold cnt; rw [b8, nI_clamp (by omega)]
        have et : stt (laR L.length σ) (65 + 7 * x1.toNatClampNeg + 2) = t := by unfold stt; rw [b9, nI_clamp (by omega)]
        unfold rX10_run
        rw [if_pos (hh1.mpr s1), ec, et]
        unfold runAtF
        have xl : nI ws.length ≤ x2 ↔ (ws.length : Int) ≤ x2.toInt := by rw [Int32.le_iff_toInt_le, nI_int (by omega)]
        dsimp only
        by_cases c : hsx x2 (whl (gq L x1.toNatClampNeg)).length
        · have c' := c
          rw [lw2] at c'
          obtain ⟨f1, f2⟩ := hsx_e c'
          rw [if_pos c, if_neg (fun z => by have := x0.mp z; have := c.1; omega), if_neg (fun z => by have := xl.mp z; have := c'.2; omega), b10 _ (Nat.mod_lt _ (by omega)), b1, rtl_at tle f2]
        · rw [if_neg c]
          by_cases d : x2 < 0
          · rw [if_pos d]
          · rw [if_neg d, if_pos (xl.mpr (by
              have d' := mt x0.mpr d
              by_cases e : (ws.length : Int) ≤ x2.toInt
              · exact e
              · exact absurd ⟨by omega, by rw [lw2]; omega⟩ c))]
      · unfold sX10_run; rw [if_pos (hh1.mpr s1)]; exact ⟨q, l1⟩
      · unfold sX10_run; rw [if_pos (hh1.mpr s1)]; exact l3
    · obtain ⟨k1, k2, k3, k4, k5⟩ := kn_m x1 hr'.1 ok e1
      have es : sX11_run L.length x1 x2 ρ = sKn (sX11_takesFrom x1.toNatClampNeg x1 ρ) := by
        unfold sX11_run
        rw [if_pos ((has_m hr'.1 x1).mpr s1)]
        split <;> rfl
      refine StM.of (evm ρ hr') ?_ (by rw [es]; exact hr'.kq (k810 k4)) (by rw [es]; exact lo_kq (k810 k4))
      unfold rX11_run
      rw [if_pos ((has_m hr'.1 x1).mpr s1)]
      obtain ⟨a1, a2, a3, a4, a5, a6, a7, a8⟩ := k1
      dsimp only at a5 a6
      generalize sKn (sX11_takesFrom x1.toNatClampNeg x1 ρ) = τ at *
      have ii : rX11_in x2.toInt64 0 ((τ.1 159 19) - 1 : Int32).toInt64 τ = true ↔ hsx x2 (whl (gq L x1.toNatClampNeg)).length := by
        rw [in_i, a5, Int32.toInt_toInt64, nIm1 (by omega), show (0 : Int64).toInt = 0 from rfl]
        unfold hsx
        omega
      dsimp only
      by_cases c : hsx x2 (whl (gq L x1.toNatClampNeg)).length
      · rw [if_pos c, if_pos (ii.mpr c)]; exact a6 _ (hsx_e c).2
      · rw [if_neg c, if_neg (fun z => c (ii.mp z))]
  · refine StK.mk (F := (-1000000001, (L, Q, I, T, fa, B, sd))) h2 ?_ (fun ρ hr' => ?_)
    · have n1 : ¬ rX5_has 1 2 x1 σ = true := fun z => s1 (hh1.mp z)
      refine StC.of evc (if_neg n1) (by unfold sX10_run; rw [if_neg n1]; exact h1) (by unfold sX10_run; rw [if_neg n1]; exact hi_rfl)
    · have n1 : ¬ rX11_isSquare x1 ρ = true := fun z => s1 ((has_m hr'.1 x1).mp z)
      refine StM.of (evm ρ hr') (if_neg n1) (by unfold sX11_run; rw [if_neg n1]; exact hr') (by unfold sX11_run; rw [if_neg n1]; exact lo_rfl)
theorem k_pair {σ : Sg} (h : Rel σ) (x1 x2 x3 : Int32) : StK σ yX10_pair cX10_pair 4 yX11_pair cX11_pair 5 [.int x1, .int x2, .int x3] := by
  obtain ⟨⟨L, Q, I, T, fa, B, sd⟩, h1, h2⟩ := h
  obtain ⟨q, hc⟩ := h1.q
  have sh := hc.1
  have ok := sh.2.1
  have hh1 := has_c sh x1
  have hh2 := has_c sh x2
  obtain ⟨w1, w2⟩ := hc.2.2.2.2.2.2.w
  obtain ⟨l1, l2, l3⟩ := la_ok hc
  have evc := fun (l : Launch) (b : Nat) (cy : Nat → ClassId) (D : va_G) => ev_X10_pair (l := l) (b := b) (cy := cy) (D := D) (d := 1) (x1 := x1) (x2 := x2) (x3 := x3) sh.1 ok.1 w1
  have evm := fun (ρ : Sg) (hr' : RMs ρ (L, Q, I, T, fa, B, sd)) (l : Launch) (b : Nat) (cy : Nat → ClassId) (D : va_G) => ev_X11_pair (l := l) (b := b) (cy := cy) (D := D) (d := 0) (x1 := x1) (x2 := x2) (x3 := x3) (now_ok hr'.1 ok) ok.1 hr'.1.1
  have i1 : ∀ ρ : Sg, rX11_in x3.toInt64 0 2 ρ = true ↔ 0 ≤ x3.toInt ∧ x3.toInt ≤ 2 := fun ρ => in_i
  by_cases hs : hsx x1 L.length ∧ hsx x2 L.length
  · obtain ⟨s1, s2⟩ := hs
    obtain ⟨_, e1⟩ := hsx_e s1
    obtain ⟨_, e2⟩ := hsx_e s2
    have al := ca_al ok l2 e1 e2 x1 x2
    obtain ⟨g1, g2, g3⟩ := gt_c x1 x2 l1 l2 e1 e2
    obtain ⟨b1, b2, b3⟩ := bg_c l1 l2 e1 e2
    by_cases e0 : x3 = 0
    · subst e0
      refine StK.mk (F := (if alk (gq L x1.toNatClampNeg) (gq L x2.toNatClampNeg) = true then 1 else 0, (L, Q, I, T, fa, B, sd))) h2 ?_ (fun ρ hr' => ?_)
      · refine StC.of evc ?_ ?_ ?_
        · unfold rX10_pair; rw [if_pos (hh1.mpr s1), if_pos (hh2.mpr s2), if_pos rfl, al]
        · unfold sX10_pair; rw [if_pos (hh1.mpr s1), if_pos (hh2.mpr s2), if_pos rfl]; split <;> exact ⟨q, l1⟩
        · unfold sX10_pair; rw [if_pos (hh1.mpr s1), if_pos (hh2.mpr s2), if_pos rfl]; split <;> exact l3
      · obtain ⟨m1, m2, _⟩ := al_m (n := L.length) x1 x2 hr'.1 ok e1 e2
        have es : sX11_pair L.length x1 x2 0 ρ = sX11_areAlike L.length x1.toNatClampNeg x2.toNatClampNeg x1 x2 ρ := by
          unfold sX11_pair; rw [if_pos ((has_m hr'.1 x1).mpr s1), if_pos ((has_m hr'.1 x2).mpr s2), if_pos ((i1 ρ).mpr (by decide)), if_neg (by decide), if_pos rfl]; split <;> rfl
        refine StM.of (evm ρ hr') ?_ (by rw [es]; exact hr'.kq m2) (by rw [es]; exact lo_kq m2)
        unfold rX11_pair; rw [if_pos ((has_m hr'.1 x1).mpr s1), if_pos ((has_m hr'.1 x2).mpr s2), if_pos ((i1 ρ).mpr (by decide)), if_neg (by decide), if_pos rfl, m1]
    by_cases e1' : x3 = 1
    · subst e1'
      refine StK.mk (F := (if gtA (gq L x1.toNatClampNeg) (gq L x2.toNatClampNeg) = true then 1 else 0, (L, Q, I, T, fa, B, sd))) h2 ?_ (fun ρ hr' => ?_)
      · refine StC.of evc ?_ ?_ ?_
        · unfold rX10_pair; rw [if_pos (hh1.mpr s1), if_pos (hh2.mpr s2), if_neg e0, if_pos rfl, g1]
        · unfold sX10_pair; rw [if_pos (hh1.mpr s1), if_pos (hh2.mpr s2), if_neg e0, if_pos rfl]; split <;> exact ⟨q, g2⟩
        · unfold sX10_pair; rw [if_pos (hh1.mpr s1), if_pos (hh2.mpr s2), if_neg e0, if_pos rfl]; split <;> exact fun a ha => (g3 a ha).trans (l3 a ha)
      · obtain ⟨m1, m2⟩ := gt_m x1 x2 hr'.1 ok e1 e2
        have es : sX11_pair L.length x1 x2 1 ρ = sX11_goTogether x1.toNatClampNeg x2.toNatClampNeg x1 x2 ρ := by
          unfold sX11_pair; rw [if_pos ((has_m hr'.1 x1).mpr s1), if_pos ((has_m hr'.1 x2).mpr s2), if_pos ((i1 ρ).mpr (by decide)), if_neg (by decide), if_neg (by decide)]; split <;> rfl
        refine StM.of (evm ρ hr') ?_ (by rw [es]; exact hr'.kq m2) (by rw [es]; exact lo_kq m2)
        unfold rX11_pair; rw [if_pos ((has_m hr'.1 x1).mpr s1), if_pos ((has_m hr'.1 x2).mpr s2), if_pos ((i1 ρ).mpr (by decide)), if_neg (by decide), if_neg (by decide), m1]
    by_cases e2' : x3 = 2
    · subst e2'
      refine StK.mk (F := (bgA (gq L x1.toNatClampNeg) (gq L x2.toNatClampNeg), (L, Q, I, T, fa, B, sd))) h2 ?_ (fun ρ hr' => ?_)
      · refine StC.of evc ?_ ?_ ?_
        · unfold rX10_pair; rw [if_pos (hh1.mpr s1), if_pos (hh2.mpr s2), if_neg e0, if_neg e1', if_pos rfl]; exact b1
        · unfold sX10_pair; rw [if_pos (hh1.mpr s1), if_pos (hh2.mpr s2), if_neg e0, if_neg e1', if_pos rfl]; exact ⟨q, b2⟩
        · unfold sX10_pair; rw [if_pos (hh1.mpr s1), if_pos (hh2.mpr s2), if_neg e0, if_neg e1', if_pos rfl]; exact fun a ha => (b3 a ha).trans (l3 a ha)
      · obtain ⟨m1, m2⟩ := bg_m x1 x2 hr'.1 ok e1 e2
        have es : sX11_pair L.length x1 x2 2 ρ = sX11_beginsOf L.length x1.toNatClampNeg x2.toNatClampNeg x1 x2 ρ := by
          unfold sX11_pair; rw [if_pos ((has_m hr'.1 x1).mpr s1), if_pos ((has_m hr'.1 x2).mpr s2), if_pos ((i1 ρ).mpr (by decide)), if_pos rfl]
        refine StM.of (evm ρ hr') ?_ (by rw [es]; exact hr'.kq m2) (by rw [es]; exact lo_kq m2)
        unfold rX11_pair; rw [if_pos ((has_m hr'.1 x1).mpr s1), if_pos ((has_m hr'.1 x2).mpr s2), if_pos ((i1 ρ).mpr (by decide)), if_pos rfl]; exact m1
    have nx : ¬ (0 ≤ x3.toInt ∧ x3.toInt ≤ 2) := fun hx => by
      obtain ⟨f1, f2⟩ := hsx_e (x := x3) (n := 3) ⟨hx.1, by have := hx.2; omega⟩
      have all : ∀ n, n < 3 → nI n = 0 ∨ nI n = 1 ∨ nI n = 2 := by decide +kernel
      have := all _ f2
      rw [← f1] at this
      rcases this with z | z | z
      · exact e0 z
      · exact e1' z
      · exact e2' z
    refine StK.mk (F := (-1000000002, (L, Q, I, T, fa, B, sd))) h2 ?_ (fun ρ hr' => ?_)
    · refine StC.of evc ?_ ?_ ?_
      · unfold rX10_pair; rw [if_pos (hh1.mpr s1), if_pos (hh2.mpr s2), if_neg e0, if_neg e1', if_neg e2']
      · unfold sX10_pair; rw [if_pos (hh1.mpr s1), if_pos (hh2.mpr s2), if_neg e0, if_neg e1', if_neg e2']; exact ⟨q, l1⟩
      · unfold sX10_pair; rw [if_pos (hh1.mpr s1), if_pos (hh2.mpr s2), if_neg e0, if_neg e1', if_neg e2']; exact l3
    · have es : sX11_pair L.length x1 x2 x3 ρ = ρ := by
        unfold sX11_pair; rw [if_pos ((has_m hr'.1 x1).mpr s1), if_pos ((has_m hr'.1 x2).mpr s2), if_neg (fun z => nx ((i1 ρ).mp z))]
      refine StM.of (evm ρ hr') ?_ (by rw [es]; exact hr') (by rw [es]; exact lo_rfl)
      unfold rX11_pair; rw [if_pos ((has_m hr'.1 x1).mpr s1), if_pos ((has_m hr'.1 x2).mpr s2), if_neg (fun z => nx ((i1 ρ).mp z))]
  · refine StK.mk (F := (-1000000001, (L, Q, I, T, fa, B, sd))) h2 ?_ (fun ρ hr' => ?_)
    · have e1 : sX10_pair L.length x1 x2 x3 σ = σ := no2c hh1 hh2 hs _ _
      refine StC.of evc (no2c hh1 hh2 hs _ _) (by rw [e1]; exact h1) (by rw [e1]; exact hi_rfl)
    · have e1 : sX11_pair L.length x1 x2 x3 ρ = ρ := no2m (has_m hr'.1 x1) (has_m hr'.1 x2) hs _ _
      refine StM.of (evm ρ hr') (no2m (has_m hr'.1 x1) (has_m hr'.1 x2) hs _ _) (by rw [e1]; exact hr') (by rw [e1]; exact lo_rfl)
end
