noncomputable section
theorem two_ix {x : Int32} (h : 0 ≤ x.toInt ∧ x.toInt ≤ 1) : x = nI x.toNatClampNeg ∧ x.toNatClampNeg < 2 := hsx_e (n := 2) ⟨h.1, by have := h.2; omega⟩
theorem k_keep {σ : Sg} (h : Rel σ) (x1 : Int32) : StK σ yX10_keep cX10_keep 2 yX11_keep cX11_keep 3 [.int x1] := by
  obtain ⟨⟨L, Q, I, T, fa, B, sd⟩, h1, h2⟩ := h
  obtain ⟨q, hc⟩ := h1.q
  obtain ⟨c1, c2, c3, c4, c5, c6, c7⟩ := id hc
  obtain ⟨q1, q2, q3, q4, q5, q6⟩ := id c2
  have evc := fun (l : Launch) (b : Nat) (cy : Nat → ClassId) (D : va_G) => ev_X10_keep (l := l) (b := b) (cy := cy) (D := D) (d := 4) (x1 := x1) c1.1 c1.2.1.1
  have evm := fun (ρ : Sg) (l : Launch) (b : Nat) (cy : Nat → ClassId) (D : va_G) => ev_X11_keep (l := l) (b := b) (cy := cy) (D := D) (d := 6) (x1 := x1) (σ := ρ)
  have y0 : x1 < 0 ↔ x1.toInt < 0 := Int32.lt_iff_toInt_lt
  have y4 : x1 < 2 ↔ x1.toInt < 2 := Int32.lt_iff_toInt_lt
  have i1 : ∀ ρ : Sg, rX11_in x1.toInt64 0 1 ρ = true ↔ 0 ≤ x1.toInt ∧ x1.toInt ≤ 1 := fun ρ => in_i
  by_cases hx : 0 ≤ x1.toInt ∧ x1.toInt ≤ 1
  · have n0 : ¬ x1 < 0 := fun z => by have := y0.mp z; omega
    have n2 : x1 < 2 := y4.mpr (by omega)
    obtain ⟨_, ei⟩ := two_ix hx
    refine StK.mk (F := (1, (L, [], fun j => if j = x1.toNatClampNeg then some (L, sd) else I j, T, fa, B, sd))) h2 ?_ (fun ρ hr' => ?_)
    · have ce1 : rX10_keep L.length x1 σ = 1 := by unfold rX10_keep; rw [if_neg n0, if_pos n2]
      have ce2 : sX10_keep L.length x1 σ = sX4_forget (sX1_fill (153 + 3 * x1.toNatClampNeg) (153 + 3 * x1.toNatClampNeg + 1) (153 + 3 * x1.toNatClampNeg + 2) 1 2 L.length (σ.1 0 9) σ) := by unfold sX10_keep; rw [if_neg n0, if_pos n2]
      generalize x1.toNatClampNeg = i at *
      have sc := sh_cf (k := 153 + 3 * i + 1) (c := 153 + 3 * i + 2) (by omega) (by omega) c1
      have f0 : ∀ a, a ≠ 153 + 3 * i + 1 → a ≠ 153 + 3 * i + 2 → (cfS (153 + 3 * i + 1) (153 + 3 * i + 2) 1 2 L.length σ).1 a = σ.1 a := fun a h1 h2 => cf_1 h1 h2
      have f0' : (cfS (153 + 3 * i + 1) (153 + 3 * i + 2) 1 2 L.length σ).2 = σ.2 := rfl
      unfold sX4_forget sX1_fill at ce2
      dsimp only at ce2
      generalize cfS (153 + 3 * i + 1) (153 + 3 * i + 2) 1 2 L.length σ = μ at *
      have hsd : σ.1 0 9 = sd := c6.1
      rw [hsd] at ce2
      have f1 : ∀ a, a ≠ 3 → a ≠ 153 + 3 * i → (u2 (u2 (u2 μ.1 (153 + 3 * i) 1 sd) (153 + 3 * i) 2 1) 3 2 0) a = μ.1 a := fun a h1 h2 => by rw [u2k h1, u2k h2, u2k h2]
      have f2 : ∀ a, a ≠ 3 → a ≠ 153 + 3 * i → a ≠ 153 + 3 * i + 1 → a ≠ 153 + 3 * i + 2 → (u2 (u2 (u2 μ.1 (153 + 3 * i) 1 sd) (153 + 3 * i) 2 1) 3 2 0) a = σ.1 a := fun a h1 h2 h3 h4 => (f1 a h1 h2).trans (f0 a h3 h4)
      have scf : ShC ((u2 (u2 (u2 μ.1 (153 + 3 * i) 1 sd) (153 + 3 * i) 2 1) 3 2 0, μ.2) : Sg) (153 + 3 * i + 1) (153 + 3 * i + 2) L := sc.fr (f1 _ (by omega) (by omega)) (f1 _ (by omega) (by omega))
      refine StC.of evc ce1 ?_ ?_
      · rw [ce2]
        refine ⟨q, c1.fr (f2 1 (by omega) (by omega) (by omega) (by omega)) (f2 2 (by omega) (by omega) (by omega) (by omega)), ⟨q1, ?_, ?_, by simp, fun j hj => (q5 j hj).fr (f2 _ (by omega) (by omega) (by omega) (by omega)), fun e he => by simp at he⟩, fun j hj => ?_, c4.fr (fun a _ _ => f2 a (by omega) (by omega) (by omega) (by omega)), c5.fr (fun a _ _ => f2 a (by omega) (by omega) (by omega) (by omega)), c6.fr (f2 0 (by omega) (by omega) (by omega) (by omega)), c7.fr (fun a ha => ⟨f2 a (by omega) (by omega) (by omega) (by omega), by rw [f0']⟩)⟩
        · dsimp only; rw [u2_j (by decide), u2_k (by omega), u2_k (by omega), f0 3 (by omega) (by omega)]; exact q2
        · dsimp only; rw [u2_eq]; rfl
        · dsimp only
          by_cases ej : j = i
          · subst ej
            refine ⟨scf.szok, fun z => ?_, fun p hp => ?_⟩
            · rw [if_pos rfl] at z; cases z
            · rw [if_pos rfl] at hp
              rw [← Option.some.inj hp]
              refine ⟨?_, scf, ?_, c6.2⟩
              · rw [u2_k (by omega), u2_eq]
              · rw [u2_k (by omega), u2_j (by decide), u2_eq]
          · have g := c3 j hj
            have fj : ∀ a, a = 153 + 3 * j ∨ a = 153 + 3 * j + 1 ∨ a = 153 + 3 * j + 2 → (u2 (u2 (u2 μ.1 (153 + 3 * i) 1 sd) (153 + 3 * i) 2 1) 3 2 0) a = σ.1 a := fun a ha => f2 a (by omega) (by omega) (by omega) (by omega)
            refine ⟨g.1.fr (fj _ (by omega)), fun z => ?_, fun p hp => ?_⟩
            · rw [if_neg ej] at z
              rw [fj _ (by omega)]; exact g.2.1 z
            · rw [if_neg ej] at hp
              obtain ⟨k1, k2, k3, k4⟩ := g.2.2 p hp
              exact ⟨by rw [fj _ (by omega)]; exact k1, k2.fr (fj _ (by omega)) (fj _ (by omega)), by rw [fj _ (by omega)]; exact k3, k4⟩
      · rw [ce2]; exact fun a ha => f2 a (by omega) (by omega) (by omega) (by omega)
    · obtain ⟨m1, m2, m3, m4, m5, m6⟩ := id hr'
      dsimp only at m1 m2 m3 m4 m5 m6
      have ce1 : rX11_keep x1 ρ = 1 := if_pos ((i1 ρ).mpr hx)
      have ce2 : sX11_keep x1 ρ = keE x1.toNatClampNeg (keL x1.toNatClampNeg 49 0 ρ) := if_pos ((i1 ρ).mpr hx)
      rw [ke_G] at ce2
      generalize x1.toNatClampNeg = i at *
      obtain ⟨g1, g2, g3⟩ := cpG_at (a := 162) (b := 160) (o := 50 * i) (p := 0) (Or.inl (by decide)) 49 0 ρ
      generalize cpG 162 160 (50 * i) 0 49 0 ρ = μ at *
      unfold keE at ce2
      rw [show μ.1 159 5 = sd by rw [g2 159 (by decide)]; exact m6] at ce2
      have fa' : ∀ a, a ≠ 159 → a ≠ 162 → a ≠ 163 → (u2 (u2 (u2 μ.1 162 (50 * i + 49) sd) 163 i 1) 159 2 0) a = ρ.1 a := fun a h1 h2 h3 => by rw [u2k h1, u2k h3, u2k h2, g2 a h2]
      have fj' : ∀ j, j ≠ 2 → (u2 (u2 (u2 μ.1 162 (50 * i + 49) sd) 163 i 1) 159 2 0) 159 j = ρ.1 159 j := fun j hj => by rw [u2_j hj, u2_k (by decide), u2_k (by decide), g2 159 (by decide)]
      have v163 : ∀ m, (u2 (u2 (u2 μ.1 162 (50 * i + 49) sd) 163 i 1) 159 2 0) 162 m = if m = 50 * i + 49 then sd else μ.1 162 m := fun m => by rw [u2_k (by decide), u2_k (by decide), u2_at]
      have v164 : ∀ m, (u2 (u2 (u2 μ.1 162 (50 * i + 49) sd) 163 i 1) 159 2 0) 163 m = if m = i then 1 else ρ.1 163 m := fun m => by rw [u2_k (by decide), u2_at, u2_k (by decide), g2 163 (by decide)]
      refine StM.of (evm ρ) ce1 ?_ ?_
      · rw [ce2]
        refine ⟨m1.fr (fa' 160 (by decide) (by decide) (by decide)), ⟨?_, by simp, fun e he => by simp at he⟩, fun j hj => ?_, m4.fr (fj' 7 (by decide)) (fj' 8 (by decide)) (fa' 164 (by decide) (by decide) (by decide)), m5.fr (fj' 10 (by decide)) (fa' 165 (by decide) (by decide) (by decide)), (fj' 5 (by decide)).trans m6⟩
        · dsimp only; rw [u2_eq]; rfl
        · dsimp only
          by_cases ej : j = i
          · subst ej
            refine ⟨fun z => (by rw [if_pos rfl] at z; exact (nomatch z)), fun p hp => ?_⟩
            rw [if_pos rfl] at hp
            rw [← Option.some.inj hp]
            refine ⟨by rw [v164, if_pos rfl], ?_, m1.2.1, ?_, by rw [v163, if_pos rfl]⟩
            · rw [v163, if_neg (by omega), g1, if_pos (by omega), show 0 + (50 * j - 50 * j) = 0 by omega]; exact m1.1
            · apply rep_cp m1.2.2
              intro k hk
              have := m1.2.1
              rw [v163, if_neg (by omega), g1, if_pos (by omega), show 0 + (50 * j + 1 + k - 50 * j) = 1 + k by omega]
          · have g := m3 j hj
            refine ⟨fun z => ?_, fun p hp => ?_⟩
            · rw [if_neg ej] at z
              rw [v164, if_neg ej]; exact g.1 z
            · rw [if_neg ej] at hp
              obtain ⟨k1, k2, k3, k4, k5⟩ := g.2 p hp
              refine ⟨by rw [v164, if_neg ej]; exact k1, ?_, k3, ?_, ?_⟩
              · rw [v163, if_neg (by omega), g1, if_neg (by omega)]; exact k2
              · apply rep_cp k4
                intro k hk
                rw [v163, if_neg (by omega), g1, if_neg (by omega)]
              · rw [v163, if_neg (by omega), g1, if_neg (by omega)]; exact k5
      · rw [ce2]; exact fun a ha => ⟨fa' a (by omega) (by omega) (by omega), by rw [g3]⟩
  · refine StK.mk (F := (-1000000001, (L, Q, I, T, fa, B, sd))) h2 ?_ (fun ρ hr' => ?_)
    · have ce2 : sX10_keep L.length x1 σ = σ ∧ rX10_keep L.length x1 σ = -1000000001 := by
        unfold sX10_keep rX10_keep
        by_cases c : x1 < 0
        · rw [if_pos c, if_pos c]; exact ⟨rfl, rfl⟩
        · have : ¬ x1 < 2 := fun z => hx ⟨by have := mt y0.mpr c; omega, by have := y4.mp z; omega⟩
          rw [if_neg c, if_neg c, if_neg this, if_neg this]; exact ⟨rfl, rfl⟩
      exact StC.of evc ce2.2 (by rw [ce2.1]; exact h1) (by rw [ce2.1]; exact hi_rfl)
    · have n1 := mt (i1 ρ).mp hx
      exact StM.of (evm ρ) (if_neg n1) (by unfold sX11_keep; rw [if_neg n1]; exact hr') (by unfold sX11_keep; rw [if_neg n1]; exact lo_rfl)
theorem k_goBack {σ : Sg} (h : Rel σ) (x1 : Int32) : StK σ yX10_goBack cX10_goBack 2 yX11_goBack cX11_goBack 3 [.int x1] := by
  obtain ⟨⟨L, Q, I, T, fa, B, sd⟩, h1, h2⟩ := h
  obtain ⟨q, hc⟩ := h1.q
  obtain ⟨c1, c2, c3, c4, c5, c6, c7⟩ := id hc
  obtain ⟨q1, q2, q3, q4, q5, q6⟩ := id c2
  have hk : ∀ i, i < 2 → (σ.1 (153 + 3 * i) 2 = 0 ∨ σ.1 (153 + 3 * i) 2 = 1) := fun i hi => by
    cases hI : I i with
    | none => exact Or.inl ((c3 i hi).2.1 hI)
    | some p => exact Or.inr ((c3 i hi).2.2 p hI).1
  have evc := fun (l : Launch) (b : Nat) (cy : Nat → ClassId) (D : va_G) => ev_X10_goBack (l := l) (b := b) (cy := cy) (D := D) (d := 5) (x1 := x1) hk (fun i hi => (c3 i hi).1)
  have evm := fun (ρ : Sg) (l : Launch) (b : Nat) (cy : Nat → ClassId) (D : va_G) => ev_X11_goBack (l := l) (b := b) (cy := cy) (D := D) (d := 6) (x1 := x1) (σ := ρ)
  have y0 : x1 < 0 ↔ x1.toInt < 0 := Int32.lt_iff_toInt_lt
  have y4 : x1 < 2 ↔ x1.toInt < 2 := Int32.lt_iff_toInt_lt
  have i1 : ∀ ρ : Sg, rX11_in x1.toInt64 0 1 ρ = true ↔ 0 ≤ x1.toInt ∧ x1.toInt ≤ 1 := fun ρ => in_i
  by_cases hx : 0 ≤ x1.toInt ∧ x1.toInt ≤ 1
  · have n0 : ¬ x1 < 0 := fun z => by have := y0.mp z; omega
    have n2 : x1 < 2 := y4.mpr (by omega)
    obtain ⟨_, ei⟩ := two_ix hx
    cases hI : I x1.toNatClampNeg with
    | none =>
      have kc := (c3 _ ei).2.1 hI
      refine StK.mk (F := (-1000000003, (L, Q, I, T, fa, B, sd))) h2 ?_ (fun ρ hr' => ?_)
      · have ce2 : sX10_goBack x1 σ = σ ∧ rX10_goBack x1 σ = -1000000003 := by
          unfold sX10_goBack rX10_goBack
          rw [if_neg n0, if_neg n0, if_pos n2, if_pos n2, if_pos kc, if_pos kc]; exact ⟨rfl, rfl⟩
        exact StC.of evc ce2.2 (by rw [ce2.1]; exact h1) (by rw [ce2.1]; exact hi_rfl)
      · have km := (hr'.2.2.1 _ ei).1 hI
        have ce2 : sX11_goBack x1 ρ = ρ ∧ rX11_goBack x1 ρ = -1000000003 := by
          unfold sX11_goBack rX11_goBack
          rw [if_pos ((i1 ρ).mpr hx), if_pos ((i1 ρ).mpr hx), if_pos km, if_pos km]; exact ⟨rfl, rfl⟩
        exact StM.of (evm ρ) ce2.2 (by rw [ce2.1]; exact hr') (by rw [ce2.1]; exact lo_rfl)
    | some p =>
      obtain ⟨k1, k2, k3, k4⟩ := (c3 _ ei).2.2 p hI
      have kc : ¬ σ.1 (153 + 3 * x1.toNatClampNeg) 2 = 0 := by rw [k1]; decide
      refine StK.mk (F := (1, (p.1, [], I, T, fa, B, p.2))) h2 ?_ (fun ρ hr' => ?_)
      · have szl : sz σ (153 + 3 * x1.toNatClampNeg + 1) = p.1.length := by
          have := k2.2.1.1
          unfold sz; rw [k2.1, nI_clamp (by omega)]
        have ce1 : rX10_goBack x1 σ = 1 := by unfold rX10_goBack; rw [if_neg n0, if_pos n2, if_neg kc]
        have ce2 : sX10_goBack x1 σ = sX4_forget (u2 ((cfS 1 2 (153 + 3 * x1.toNatClampNeg + 1) (153 + 3 * x1.toNatClampNeg + 2) p.1.length σ).1) 0 9 (rX1_seedThen (153 + 3 * x1.toNatClampNeg) (153 + 3 * x1.toNatClampNeg + 1) (153 + 3 * x1.toNatClampNeg + 2) (cfS 1 2 (153 + 3 * x1.toNatClampNeg + 1) (153 + 3 * x1.toNatClampNeg + 2) p.1.length σ)), (cfS 1 2 (153 + 3 * x1.toNatClampNeg + 1) (153 + 3 * x1.toNatClampNeg + 2) p.1.length σ).2) := by
          unfold sX10_goBack; rw [if_neg n0, if_pos n2, if_neg kc, szl]
        generalize x1.toNatClampNeg = i at *
        have sc := sh_cf (k := 1) (c := 2) (by omega) (by decide) k2
        have f0 : ∀ a, a ≠ 1 → a ≠ 2 → (cfS 1 2 (153 + 3 * i + 1) (153 + 3 * i + 2) p.1.length σ).1 a = σ.1 a := fun a h1 h2 => cf_1 h1 h2
        have f0' : (cfS 1 2 (153 + 3 * i + 1) (153 + 3 * i + 2) p.1.length σ).2 = σ.2 := rfl
        unfold sX4_forget rX1_seedThen at ce2
        dsimp only at ce2
        generalize cfS 1 2 (153 + 3 * i + 1) (153 + 3 * i + 2) p.1.length σ = μ at *
        rw [f0 (153 + 3 * i) (by omega) (by omega), k3] at ce2
        have f1 : ∀ a, a ≠ 3 → a ≠ 0 → (u2 (u2 μ.1 0 9 p.2) 3 2 0) a = μ.1 a := fun a h1 h2 => by rw [u2k h1, u2k h2]
        have f2 : ∀ a, a ≠ 0 → a ≠ 1 → a ≠ 2 → a ≠ 3 → (u2 (u2 μ.1 0 9 p.2) 3 2 0) a = σ.1 a := fun a h0 h1 h2 h3 => (f1 a h3 h0).trans (f0 a h1 h2)
        refine StC.of evc ce1 ?_ ?_
        · rw [ce2]
          refine ⟨q, sc.fr (f1 1 (by omega) (by omega)) (f1 2 (by omega) (by omega)), ⟨q1, ?_, ?_, by simp, fun j hj => (q5 j hj).fr (f2 _ (by omega) (by omega) (by omega) (by omega)), fun e he => by simp at he⟩, c3.fr (fun a _ _ => f2 a (by omega) (by omega) (by omega) (by omega)), c4.fr (fun a _ _ => f2 a (by omega) (by omega) (by omega) (by omega)), c5.fr (fun a _ _ => f2 a (by omega) (by omega) (by omega) (by omega)), ⟨?_, k4⟩, c7.fr (fun a ha => ⟨f2 a (by omega) (by omega) (by omega) (by omega), by rw [f0']⟩)⟩
          · dsimp only; rw [u2_j (by decide), u2_k (by decide), f0 3 (by decide) (by decide)]; exact q2
          · dsimp only; rw [u2_eq]; rfl
          · dsimp only; rw [u2_k (by decide), u2_eq]
        · rw [ce2]; exact fun a ha => f2 a (by omega) (by omega) (by omega) (by omega)
      · obtain ⟨m1, m2, m3, m4, m5, m6⟩ := id hr'
        dsimp only at m1 m2 m3 m4 m5 m6
        obtain ⟨j1, j2, j3, j4, j5⟩ := (m3 _ ei).2 p hI
        have km : ¬ ρ.1 163 x1.toNatClampNeg = 0 := by rw [j1]; decide
        have ce1 : rX11_goBack x1 ρ = 1 := by unfold rX11_goBack; rw [if_pos ((i1 ρ).mpr hx), if_neg km]
        have ce2 : sX11_goBack x1 ρ = gbE x1.toNatClampNeg (gbL x1.toNatClampNeg 49 0 ρ) := by unfold sX11_goBack; rw [if_pos ((i1 ρ).mpr hx), if_neg km]
        rw [gb_G] at ce2
        generalize x1.toNatClampNeg = i at *
        obtain ⟨g1, g2, g3⟩ := cpG_at (a := 160) (b := 162) (o := 0) (p := 50 * i) (Or.inl (by decide)) 49 0 ρ
        generalize cpG 160 162 0 (50 * i) 49 0 ρ = μ at *
        unfold gbE at ce2
        rw [show μ.1 162 (50 * i + 49) = p.2 by rw [g2 162 (by decide)]; exact j5] at ce2
        have fa' : ∀ a, a ≠ 159 → (u2 (u2 μ.1 159 5 p.2) 159 2 0) a = μ.1 a := fun a h1 => by rw [u2k h1, u2k h1]
        have fb' : ∀ a, a ≠ 159 → a ≠ 160 → (u2 (u2 μ.1 159 5 p.2) 159 2 0) a = ρ.1 a := fun a h1 h2 => (fa' a h1).trans (g2 a h2)
        have fj' : ∀ j, j ≠ 2 → j ≠ 5 → (u2 (u2 μ.1 159 5 p.2) 159 2 0) 159 j = ρ.1 159 j := fun j hj h5 => by rw [u2_j hj, u2_j h5, g2 159 (by decide)]
        refine StM.of (evm ρ) ce1 ?_ ?_
        · rw [ce2]
          refine ⟨⟨?_, j3, ?_⟩, ⟨?_, by simp, fun e he => by simp at he⟩, m3.fr (fb' 162 (by decide) (by decide)) (fb' 163 (by decide) (by decide)), m4.fr (fj' 7 (by decide) (by decide)) (fj' 8 (by decide) (by decide)) (fb' 164 (by decide) (by decide)), m5.fr (fj' 10 (by decide) (by decide)) (fb' 165 (by decide) (by decide)), ?_⟩
          · dsimp only; rw [fa' 160 (by decide), g1, if_pos (by omega), show 50 * i + (0 - 0) = 50 * i by omega]; exact j2
          · dsimp only
            rw [fa' 160 (by decide)]
            apply rep_cp j4
            intro k hk
            rw [g1, if_pos (by omega), show 50 * i + (1 + k - 0) = 50 * i + 1 + k by omega]
          · dsimp only; rw [u2_eq]; rfl
          · dsimp only; rw [u2_j (by decide), u2_eq]
        · rw [ce2]; exact fun a ha => ⟨fb' a (by omega) (by omega), by rw [g3]⟩
  · refine StK.mk (F := (-1000000001, (L, Q, I, T, fa, B, sd))) h2 ?_ (fun ρ hr' => ?_)
    · have ce2 : sX10_goBack x1 σ = σ ∧ rX10_goBack x1 σ = -1000000001 := by
        unfold sX10_goBack rX10_goBack
        by_cases c : x1 < 0
        · rw [if_pos c, if_pos c]; exact ⟨rfl, rfl⟩
        · have : ¬ x1 < 2 := fun z => hx ⟨by have := mt y0.mpr c; omega, by have := y4.mp z; omega⟩
          rw [if_neg c, if_neg c, if_neg this, if_neg this]; exact ⟨rfl, rfl⟩
      exact StC.of evc ce2.2 (by rw [ce2.1]; exact h1) (by rw [ce2.1]; exact hi_rfl)
    · have n1 := mt (i1 ρ).mp hx
      exact StM.of (evm ρ) (if_neg n1) (by unfold sX11_goBack; rw [if_neg n1]; exact hr') (by unfold sX11_goBack; rw [if_neg n1]; exact lo_rfl)
/-! write -/
def ltr (x : Int32) : Option Mx := if x = 82 then some (1, 1, 0, 1) else if x = 76 then some (1, 0, 1, 1) else if x = 114 then some (1, -1, 0, 1) else if x = 108 then some (1, 0, -1, 1) else if x = 83 then some (0, -1, 1, 0) else if x = 115 then some (0, 1, -1, 0) else none
theorem ltr_ok {x : Int32} {M : Mx} (h : ltr x = some M) : okM M := by
  unfold ltr at h
  repeat' (split at h)
  all_goals first | (rw [← Option.some.inj h]; exact ⟨rfl, by unfold bdM; simp⟩) | cases h
theorem mbl_c {σ : Sg} {i : Nat} {x : Int32} {C : Mx} (h : At σ i C) : (∀ M, ltr x = some M → rX6_multiplyByLetter i x σ = true ∧ At (sX6_multiplyByLetter i x σ) i (mm C M)) ∧ (ltr x = none → rX6_multiplyByLetter i x σ = false ∧ sX6_multiplyByLetter i x σ = σ) ∧ (sX6_multiplyByLetter i x σ).1 = σ.1 ∧ ∀ a, a ≠ i → (sX6_multiplyByLetter i x σ).2 a = σ.2 a := by
  obtain ⟨h1, h2, h3, h4⟩ := h
  unfold ltr rX6_multiplyByLetter sX6_multiplyByLetter
  by_cases c1 : x = 82
  · subst c1
    rw [if_pos rfl, if_neg (by decide), if_pos rfl, if_neg (by decide), if_pos rfl]
    refine ⟨fun M hM => ⟨rfl, ?_⟩, fun z => (nomatch z), rfl, fun a ha => set_2 ha⟩
    rw [← Option.some.inj hM, h1, h2, h3, h4]
    apply at_sq <;> simp only [mm, lI_add] <;> congr 1 <;> omega
  · rw [if_neg c1]
    by_cases c2 : x = 76
    · subst c2
      rw [if_pos rfl, if_pos rfl, if_pos rfl]
      refine ⟨fun M hM => ⟨rfl, ?_⟩, fun z => (nomatch z), rfl, fun a ha => set_2 ha⟩
      rw [← Option.some.inj hM, h1, h2, h3, h4]
      apply at_sq <;> simp only [mm, lI_add] <;> congr 1 <;> omega
    · rw [if_neg c2, if_neg c2, if_neg c2, if_neg c1, if_neg c1]
      by_cases c3 : x = 114
      · subst c3
        rw [if_pos rfl, if_neg (by decide), if_neg (by decide), if_pos rfl, if_neg (by decide), if_neg (by decide), if_pos rfl]
        refine ⟨fun M hM => ⟨rfl, ?_⟩, fun z => (nomatch z), rfl, fun a ha => set_2 ha⟩
        rw [← Option.some.inj hM, h1, h2, h3, h4]
        apply at_sq <;> simp only [mm, lI_sub] <;> congr 1 <;> omega
      · rw [if_neg c3]
        by_cases c4 : x = 108
        · subst c4
          rw [if_pos rfl, if_neg (by decide), if_pos rfl, if_neg (by decide), if_pos rfl]
          refine ⟨fun M hM => ⟨rfl, ?_⟩, fun z => (nomatch z), rfl, fun a ha => set_2 ha⟩
          rw [← Option.some.inj hM, h1, h2, h3, h4]
          apply at_sq <;> simp only [mm, lI_sub] <;> congr 1 <;> omega
        · rw [if_neg c4]
          by_cases c5 : x = 83
          · subst c5
            rw [if_pos rfl, if_pos rfl, if_pos rfl]
            refine ⟨fun M hM => ⟨rfl, ?_⟩, fun z => (nomatch z), rfl, fun a ha => set_2 ha⟩
            rw [← Option.some.inj hM, h1, h2, h3, h4]
            apply at_sq <;> simp only [mm, lI_neg] <;> congr 1 <;> omega
          · rw [if_neg c5, if_neg c5, if_neg c5, if_neg c4, if_neg c4, if_neg c3, if_neg c3]
            by_cases c6 : x = 115
            · subst c6
              rw [if_pos rfl, if_pos rfl, if_pos rfl]
              refine ⟨fun M hM => ⟨rfl, ?_⟩, fun z => (nomatch z), rfl, fun a ha => set_2 ha⟩
              rw [← Option.some.inj hM, h1, h2, h3, h4]
              apply at_sq <;> simp only [mm, lI_neg] <;> congr 1 <;> omega
            · rw [if_neg c6, if_neg c6, if_neg c6]
              exact ⟨fun M hM => (nomatch hM), fun _ => ⟨rfl, rfl⟩, rfl, fun _ _ => rfl⟩
theorem mbl_m {σ : Sg} {x : Int32} {C : Mx} (h : Am σ C) : (∀ M, ltr x = some M → ¬ rX11_letterOf x σ = -1 ∧ Am (sX11_comes (rX11_letterOf x σ) σ) (mm C M)) ∧ (ltr x = none → rX11_letterOf x σ = -1) ∧ (∀ y, (sX11_comes y σ).1 = σ.1) ∧ ∀ y, loS σ (sX11_comes y σ) := by
  refine ⟨?_, ?_, ?_, ?_⟩
  · intro M hM
    unfold ltr at hM
    unfold rX11_letterOf sX11_comes
    by_cases c1 : x = 82
    · rw [if_pos c1] at hM ⊢
      rw [← Option.some.inj hM]
      exact ⟨by decide, am_mul h rfl rfl rfl rfl⟩
    · rw [if_neg c1] at hM ⊢
      by_cases c2 : x = 76
      · rw [if_pos c2] at hM ⊢
        rw [← Option.some.inj hM]
        exact ⟨by decide, am_mul h rfl rfl rfl rfl⟩
      · rw [if_neg c2] at hM ⊢
        by_cases c3 : x = 114
        · rw [if_pos c3] at hM ⊢
          rw [← Option.some.inj hM]
          exact ⟨by decide, am_mul h rfl rfl rfl rfl⟩
        · rw [if_neg c3] at hM ⊢
          by_cases c4 : x = 108
          · rw [if_pos c4] at hM ⊢
            rw [← Option.some.inj hM]
            exact ⟨by decide, am_mul h rfl rfl rfl rfl⟩
          · rw [if_neg c4] at hM ⊢
            by_cases c5 : x = 83
            · rw [if_pos c5] at hM ⊢
              rw [← Option.some.inj hM]
              exact ⟨by decide, am_mul h rfl rfl rfl rfl⟩
            · rw [if_neg c5] at hM ⊢
              by_cases c6 : x = 115
              · rw [if_pos c6] at hM ⊢
                rw [← Option.some.inj hM]
                exact ⟨by decide, am_mul h rfl rfl rfl rfl⟩
              · rw [if_neg c6] at hM; cases hM
  · intro hN
    unfold ltr at hN
    unfold rX11_letterOf
    by_cases c1 : x = 82
    · rw [if_pos c1] at hN; cases hN
    · rw [if_neg c1] at hN ⊢
      by_cases c2 : x = 76
      · rw [if_pos c2] at hN; cases hN
      · rw [if_neg c2] at hN ⊢
        by_cases c3 : x = 114
        · rw [if_pos c3] at hN; cases hN
        · rw [if_neg c3] at hN ⊢
          by_cases c4 : x = 108
          · rw [if_pos c4] at hN; cases hN
          · rw [if_neg c4] at hN ⊢
            by_cases c5 : x = 83
            · rw [if_pos c5] at hN; cases hN
            · rw [if_neg c5] at hN ⊢
              by_cases c6 : x = 115
              · rw [if_pos c6] at hN; cases hN
              · rw [if_neg c6]
  · intro y
    unfold sX11_comes
    repeat' split
    all_goals rfl
  · intro y
    unfold sX11_comes
    repeat' split
    all_goals exact lo_tk
end
