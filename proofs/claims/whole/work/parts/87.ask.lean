/-! told, square, run, pair -/
noncomputable section
theorem whl_is {A : Mx} (hA : okM A) (c : knd A = 3) : IsWh (psq A) (whl A) := by
  obtain ⟨ws, t, q, _⟩ := read_wh (k := 0) (r := 1) (e := 2) (w := 3) (p := 4) (i := 5) (σ := (fun _ _ => 0, fun a j => if a = 5 then (if j = 0 then lI A.1 else if j = 1 then lI A.2.1 else if j = 2 then lI A.2.2.1 else lI A.2.2.2) else 0)) (by decide) ⟨rfl, rfl, rfl, rfl⟩ hA (knd_3.mp c)
  rw [whl_eq c q]; exact q
theorem alk_cj {A B : Mx} {k : Nat} (hA : okM A) (hB : okM B) (ka : knd A = 3) (kb : knd B = 3) (na : mnn A) (nb : mnn B) (h : BgP A B k) : alk A B = true := by
  obtain ⟨w, e1, _, e3⟩ := h
  obtain ⟨C, cj⟩ := rtl_cj (w := w) (i := k)
  rw [e1, e3] at cj
  obtain ⟨_, _, pa⟩ := str_tr hA ka na
  obtain ⟨_, _, pb⟩ := str_tr hB kb nb
  have wa := whl_is hA ka
  rw [pa] at wa
  obtain ⟨q1, q2, q3, q4, D, q5⟩ := wa
  have wb : IsWh (psq B) (whl A) := by rw [pb]; exact ⟨q1, q2, q3, q4, _, cj.symm.trans q5⟩
  refine alk_t.mpr ⟨ka.trans kb.symm, cj.tr, ?_, (whl_eq kb wb).symm⟩
  unfold mrk
  rw [ka, kb, if_neg (by decide), if_neg (by decide), if_neg (by decide), if_neg (by decide)]
theorem gt_m {σ : Sg} {L : List Mx} {s u : Nat} (x1 x2 : Int32) (h : M1 σ L) (ok : okL L) (hs : s < L.length) (hu : u < L.length) : rX11_goTogether s u x1 x2 σ = gtA (gq L s) (gq L u) ∧ Kq I10 L10 σ (sX11_goTogether s u x1 x2 σ) := by
  have oA := okL_at ok hs
  have oB := okL_at ok hu
  have es : sX11_goTogether s u x1 x2 σ = gt3 s u x1 x2 σ := by
    unfold sX11_goTogether
    repeat' split
    all_goals rfl
  have am : Am (sX11_takesFrom s x1 σ) (gq L s) := am_tf h.2.2 ok hs
  obtain ⟨g1, g2, g3, g4⟩ := now_lI (u := u) h.2.2 ok hu
  have am1 : Am (gt1 s u x1 x2 σ) (mm (gq L s) (gq L u)) := am_mul am g1 g2 g3 g4
  have k1 : Kq I10 L10 σ (gt1 s u x1 x2 σ) := kq_tk10.trans kq_tk10
  have hl : ∀ j, L10 170 j = true := fun j => by unfold L10; simp
  have k2 : Kq I10 L10 (gt1 s u x1 x2 σ) (gt2 s u x1 x2 σ) := by
    unfold gt2
    generalize gt1 s u x1 x2 σ = ρ
    exact (((Kq.l (τ := ρ) (hl 0) Kq.rfl).trans (Kq.l (hl 1) Kq.rfl)).trans (Kq.l (hl 2) Kq.rfl)).trans (Kq.l (hl 3) Kq.rfl)
  have v : (gt2 s u x1 x2 σ).2 170 0 = lI (mm (gq L s) (gq L u)).1 ∧ (gt2 s u x1 x2 σ).2 170 1 = lI (mm (gq L s) (gq L u)).2.1 ∧ (gt2 s u x1 x2 σ).2 170 2 = lI (mm (gq L s) (gq L u)).2.2.1 ∧ (gt2 s u x1 x2 σ).2 170 3 = lI (mm (gq L s) (gq L u)).2.2.2 := by
    obtain ⟨a1, a2, a3, a4⟩ := am1
    unfold gt2
    generalize gt1 s u x1 x2 σ = ρ at *
    refine ⟨?_, ?_, ?_, ?_⟩ <;> simp [u2, a1, a2, a3, a4]
  have hm2 : M1 (gt2 s u x1 x2 σ) L := h.kq (k1.trans k2)
  have am2 : Am (sX11_takesFrom u x2 (gt2 s u x1 x2 σ)) (gq L u) := am_tf hm2.2.2 ok hu
  obtain ⟨f1, f2, f3, f4⟩ := now_lI (u := s) hm2.2.2 ok hs
  have am3 : Am (gt3 s u x1 x2 σ) (mm (gq L u) (gq L s)) := am_mul am2 f1 f2 f3 f4
  have k3 : Kq I10 L10 (gt2 s u x1 x2 σ) (gt3 s u x1 x2 σ) := kq_tk10.trans kq_tk10
  have w : ∀ j, (gt3 s u x1 x2 σ).2 170 j = (gt2 s u x1 x2 σ).2 170 j := fun j => by
    unfold gt3 sX11_multiplies sX11_takesFrom sX11_takes
    dsimp only
    simp only [u2_k (show 170 ≠ 159 by decide)]
  refine ⟨bool_of ?_, by rw [es]; exact (k1.trans k2).trans k3⟩
  unfold rX11_goTogether gtA
  rw [w, w, w, w, v.1, v.2.1, v.2.2.1, v.2.2.2, am3.1, am3.2.1, am3.2.2.1, am3.2.2.2, decide_eq_true_iff]
  obtain ⟨b1, b2, b3, b4⟩ := mm_big oB.2 oA.2
  obtain ⟨c1, c2, c3, c4⟩ := mm_big oA.2 oB.2
  have e1 := lI_eq (sm_rg b1) (sm_rg c1)
  have e2 := lI_eq (sm_rg b2) (sm_rg c2)
  have e3 := lI_eq (sm_rg b3) (sm_rg c3)
  have e4 := lI_eq (sm_rg b4) (sm_rg c4)
  generalize mm (gq L u) (gq L s) = X at *
  generalize mm (gq L s) (gq L u) = Y at *
  by_cases q1 : X.1 = Y.1
  · rw [if_pos (e1.mpr q1)]
    by_cases q2 : X.2.1 = Y.2.1
    · rw [if_pos (e2.mpr q2)]
      by_cases q3 : X.2.2.1 = Y.2.2.1
      · rw [if_pos (e3.mpr q3)]
        by_cases q4 : X.2.2.2 = Y.2.2.2
        · rw [if_pos (e4.mpr q4)]
          exact ⟨fun _ => (mx_ext q1 q2 q3 q4).symm, fun _ => rfl⟩
        · rw [if_neg (fun z => q4 (e4.mp z))]
          exact ⟨fun z => absurd z (by decide), fun z => absurd (by rw [z]) q4⟩
      · rw [if_neg (fun z => q3 (e3.mp z))]
        exact ⟨fun z => absurd z (by decide), fun z => absurd (by rw [z]) q3⟩
    · rw [if_neg (fun z => q2 (e2.mp z))]
      exact ⟨fun z => absurd z (by decide), fun z => absurd (by rw [z]) q2⟩
  · rw [if_neg (fun z => q1 (e1.mp z))]
    exact ⟨fun z => absurd z (by decide), fun z => absurd (by rw [z]) q1⟩
theorem pr_m {σ : Sg} {L : List Mx} {s : Nat} (x : Int32) (h : M1 σ L) (ok : okL L) (hs : s < L.length) : rX11_isProduct s x σ = true ↔ mnn (gq L s) := by
  have b := (okL_at ok hs).2
  unfold bdM at b
  have g : ∀ j, j < 4 → (σ.1 160 (1 + (4 * s + j)) < 0 ↔ ent (gq L s) j < 0) := fun j hj => by
    rw [rep_at h.2.2 hs hj]
    have := ent_bd (okL_at ok hs).2 j
    unfold iI
    rw [Int32.lt_iff_toInt_lt, Int32.toInt_ofInt_of_le (by omega) (by omega)]; rfl
  have g0 := g 0 (by omega)
  have g1 := g 1 (by omega)
  have g2 := g 2 (by omega)
  have g3 := g 3 (by omega)
  rw [show 1 + (4 * s + 0) = 1 + 4 * s by omega] at g0
  rw [show 1 + (4 * s + 1) = 2 + 4 * s by omega] at g1
  rw [show 1 + (4 * s + 2) = 3 + 4 * s by omega] at g2
  rw [show 1 + (4 * s + 3) = 4 + 4 * s by omega] at g3
  have f0 : ent (gq L s) 0 = (gq L s).1 := rfl
  have f1 : ent (gq L s) 1 = (gq L s).2.1 := rfl
  have f2 : ent (gq L s) 2 = (gq L s).2.2.1 := rfl
  have f3 : ent (gq L s) 3 = (gq L s).2.2.2 := rfl
  rw [f0] at g0; rw [f1] at g1; rw [f2] at g2; rw [f3] at g3
  unfold rX11_isProduct mnn
  by_cases c1 : (gq L s).1 < 0
  · rw [if_pos (g0.mpr c1)]; exact ⟨fun z => absurd z (by decide), fun z => by omega⟩
  · rw [if_neg (fun z => c1 (g0.mp z))]
    by_cases c2 : (gq L s).2.1 < 0
    · rw [if_pos (g1.mpr c2)]; exact ⟨fun z => absurd z (by decide), fun z => by omega⟩
    · rw [if_neg (fun z => c2 (g1.mp z))]
      by_cases c3 : (gq L s).2.2.1 < 0
      · rw [if_pos (g2.mpr c3)]; exact ⟨fun z => absurd z (by decide), fun z => by omega⟩
      · rw [if_neg (fun z => c3 (g2.mp z))]
        by_cases c4 : (gq L s).2.2.2 < 0
        · rw [if_pos (g3.mpr c4)]; exact ⟨fun z => absurd z (by decide), fun z => by omega⟩
        · rw [if_neg (fun z => c4 (g3.mp z))]; exact ⟨fun _ => by omega, fun _ => rfl⟩
theorem bg_m {σ : Sg} {L : List Mx} {s u : Nat} (x1 x2 : Int32) (h : M1 σ L) (ok : okL L) (hs : s < L.length) (hu : u < L.length) : rX11_beginsOf L.length s u x1 x2 σ = bgA (gq L s) (gq L u) ∧ Kq I10 L10 σ (sX11_beginsOf L.length s u x1 x2 σ) := by
  have oA := okL_at ok hs
  have oB := okL_at ok hu
  obtain ⟨a1, a2, a3, a4, a5⟩ := al_m (n := L.length) x1 x2 h ok hs hu
  have es : sX11_beginsOf L.length s u x1 x2 σ = sX11_areAlike L.length s u x1 x2 σ := by
    unfold sX11_beginsOf
    repeat' split
    all_goals rfl
  refine ⟨?_, by rw [es]; exact a2⟩
  have hm2 : M1 (sX11_areAlike L.length s u x1 x2 σ) L := h.kq a2
  have p1 := pr_m x1 hm2 ok hs
  have p2 := pr_m x2 hm2 ok hu
  unfold rX11_beginsOf
  rw [a1]
  generalize sX11_areAlike L.length s u x1 x2 σ = τ at *
  have no : ¬ (alk (gq L s) (gq L u) = true ∧ knd (gq L u) = 3 ∧ mnn (gq L s) ∧ mnn (gq L u)) → bgA (gq L s) (gq L u) = -1 := fun q => bgA_no (fun z => by
    obtain ⟨z1, z2, z3, z4, k, z5⟩ := z
    exact q ⟨alk_cj oA oB z1 z2 z3 z4 z5, z2, z3, z4⟩)
  have two : ∀ (c : Prop) [Decidable c], (if c then (-1 : Int32) else -1) = -1 := fun c _ => by split <;> rfl
  by_cases c1 : alk (gq L s) (gq L u) = true
  · rw [if_pos c1]
    by_cases c2 : knd (gq L u) = 3
    · rw [if_pos (a3.1.trans c2)]
      by_cases c3 : mnn (gq L s)
      · rw [if_pos (p1.mpr c3)]
        by_cases c4 : mnn (gq L u)
        · rw [if_pos (p2.mpr c4)]
          obtain ⟨e1, e2, e3, e4⟩ := alk_t.mp c1
          have ka : knd (gq L s) = 3 := e1.trans c2
          obtain ⟨w2, kb, f1, f2, f3, f4⟩ := a4 c2 c4
          obtain ⟨w1, kaa, g1, g2, g3, g4⟩ := a5 ka c3
          obtain ⟨s1, s2, s3, s4, s5⟩ := whl_sb oB
          have s5 := s5 c2
          rw [e4] at g3 g4
          obtain ⟨S, S0, S1, S2⟩ := per_ok s3 s4 s5 s2
          have el := ex_len (whl (gq L u)) true
          have hpos : 0 < (whl (gq L u)).length := by
            cases hW : whl (gq L u) with
            | nil => exact absurd hW s5
            | cons a b => simp
          have T1 := TM_pos hpos
          have T2 : TM (whl (gq L u)) ≤ ((whl (gq L u)).length - 0 + 1) / 2 := tmC_le _ 32 0
          have q1 := sum_le _ s1
          have eR : (whl (gq L u)).sum / TM (whl (gq L u)) = S := by rw [S1]; exact Nat.mul_div_cancel_left S (by omega)
          have Sle : S ≤ (whl (gq L u)).sum := by rw [← eR]; exact Nat.div_le_self _ _
          rw [eR] at f4 g4
          have t20 : τ.1 159 20 = nI (TM (whl (gq L u))) := by have := a3.2.2.2.2.2.2.1; rw [if_pos c2] at this; exact this
          have t21 : τ.2 159 21 = lI ((whl (gq L u)).sum : Nat) := a3.2.2.2.2.2.2.2
          have rnd : τ.2 159 21 / (τ.1 159 20).toInt64 = lI (S : Int) := by
            rw [t20, t21, nI_lI (by omega), lI_divp (by unfold rg; omega) (by unfold rg; omega) (by omega)]
            have : ((whl (gq L u)).sum : Int) / (TM (whl (gq L u)) : Int) = ((whl (gq L u)).sum / TM (whl (gq L u)) : Nat) := by rfl
            rw [this, eR]
          have nz : ¬ τ.1 159 20 = 0 := by rw [t20]; exact nI_ne0 (by omega) (by omega)
          rw [if_neg nz, rnd, f4, g4, lI_sub, lI_add]
          obtain ⟨m1, m2⟩ := bg_mod g1 f1 g2 f2 g3 f3 (fun j hj => S2 j (by rw [← el]; exact hj)) S0
          have b1 := Int.emod_nonneg (-(kb : Int)) (show (S : Int) ≠ 0 by omega)
          have b2 := Int.emod_lt_of_pos (-(kb : Int)) (show (0 : Int) < S by omega)
          have b3 := Int.emod_nonneg (-(kaa : Int)) (show (S : Int) ≠ 0 by omega)
          have b4 := Int.emod_lt_of_pos (-(kaa : Int)) (show (0 : Int) < S by omega)
          rw [bgA_yes ka c2 c3 c4 m1 m2]
          generalize -(kb : Int) % S = p at *
          generalize -(kaa : Int) % S = r at *
          rw [lI_divp (by unfold rg; omega) (by unfold rg; omega) (by omega), lI_mul, lI_sub]
          have em : p - r + S - (p - r + S) / S * S = (p - r + S) % S := by rw [Int.emod_def, Int.mul_comm]
          have n0 := Int.emod_nonneg (p - r + S) (show (S : Int) ≠ 0 by omega)
          rw [em, show (p - r + (S : Int)) % S = (((p - r + S) % S).toNat : Nat) by omega, lI_nI, Int.toNat_natCast]
        · rw [if_neg (fun z => c4 (p2.mp z)), two]; exact (no (fun z => c4 z.2.2.2)).symm
      · rw [if_neg (fun z => c3 (p1.mp z)), two]; exact (no (fun z => c3 z.2.2.1)).symm
    · rw [if_neg (fun z => c2 (a3.1.symm.trans z)), two]; exact (no (fun z => c2 z.2.1)).symm
  · rw [if_neg c1, two]; exact (no (fun z => c1 z.1)).symm
end
