/-! What is asked of the reference. -/
noncomputable section
theorem lo_kq {σ τ : Sg} (k : Kq I10 L10 σ τ) : loS σ τ := fun a ha => by
  refine ⟨funext fun j => k.1 a j ?_, funext fun j => k.2 a j ?_⟩
  · unfold I10 I8
    simp only [Bool.or_eq_false_iff, Bool.and_eq_false_iff, beq_eq_false_iff_ne]
    omega
  · unfold L10 L8
    simp only [Bool.or_eq_false_iff, Bool.and_eq_false_iff, beq_eq_false_iff_ne]
    omega
theorem now_ok {σ : Sg} {L : List Mx} (h : M1 σ L) (ok : okL L) : NowOk (σ.1 160) L.length := by
  intro s hs τ x e
  have am : Am (sX11_takesFrom s x τ) (gq L s) := am_tf (by rw [e]; exact h.2.2) ok hs
  have oA := okL_at ok hs
  exact ⟨(kn_ok am oA).1, (kn_ok (am_bk am) (mad_ok oA)).1, (kn_ok (am_mi am) (mmr_ok oA)).1⟩
theorem kM_w {σ : Sg} {A : Mx} (h : Knows (sKn σ) A) (hA : okM A) : kM σ = (whl A).length := by
  have := (whl_sb hA).2.1
  rw [kM_d, h.2.2.2.2.1, nI_clamp (by omega)]
theorem Aside.kq {σ τ : Sg} {A : Mx} (k : Kq I8 L8 σ τ) (h : Aside σ A) : Aside τ A := by
  obtain ⟨h1, h2, h3, h4, h5, h6⟩ := h
  refine ⟨(k.1 159 26 (Eq.refl _)).trans h1, (k.2 159 27 (Eq.refl _)).trans h2, (k.2 159 28 (Eq.refl _)).trans h3, (k.1 159 29 (Eq.refl _)).trans h4, (k.1 159 30 (Eq.refl _)).trans h5, fun i hi => ?_⟩
  rw [k.1 169 i (Eq.refl _)]; exact h6 i hi
theorem AsideB.kq {σ τ : Sg} {A : Mx} (k : Kq I8 L8 σ τ) (h : AsideB σ A) : AsideB τ A := by
  intro k3 nn
  obtain ⟨w, kk, e1, e2, e3, e4⟩ := h k3 nn
  exact ⟨w, kk, e1, e2, e3, (k.2 159 31 (Eq.refl _)).trans e4⟩
theorem kn_m {σ : Sg} {L : List Mx} {s : Nat} (x : Int32) (h : M1 σ L) (ok : okL L) (hs : s < L.length) : Knows (sKn (sX11_takesFrom s x σ)) (gq L s) ∧ Begs (sKn (sX11_takesFrom s x σ)) (gq L s) ∧ KnOk (sX11_takesFrom s x σ) ∧ Kq I8 L8 σ (sKn (sX11_takesFrom s x σ)) ∧ kM (sX11_takesFrom s x σ) = (whl (gq L s)).length := by
  have am : Am (sX11_takesFrom s x σ) (gq L s) := am_tf h.2.2 ok hs
  have oA := okL_at ok hs
  obtain ⟨k1, k2, k3⟩ := kn_ok am oA
  exact ⟨k2, k3, k1, kq_tk.trans (kq_sKn k1), kM_w k2 oA⟩
theorem k810 {σ τ : Sg} (k : Kq I8 L8 σ τ) : Kq I10 L10 σ τ := k.mono m810i m810l
theorem M1.kq {σ τ : Sg} {L : List Mx} (k : Kq I10 L10 σ τ) (h : M1 σ L) : M1 τ L := h.fr (kq161 k)
theorem as_m {σ : Sg} {L : List Mx} {n s : Nat} (x : Int32) (h : M1 σ L) (ok : okL L) (hs : s < L.length) : Aside (sX11_asides n s x σ) (gq L s) ∧ AsideB (sX11_asides n s x σ) (gq L s) ∧ Kq I10 L10 σ (sX11_asides n s x σ) := by
  obtain ⟨k1, k2, k3, k4, k5⟩ := kn_m x h ok hs
  unfold sX11_asides
  obtain ⟨a1, a2⟩ := aside_ok k1 k2 k5
  exact ⟨a1, a2, ((k810 k4).trans kq_pa0).trans (kq_pa _ _ _)⟩
theorem al_m {σ : Sg} {L : List Mx} {n s u : Nat} (x1 x2 : Int32) (h : M1 σ L) (ok : okL L) (hs : s < L.length) (hu : u < L.length) : rX11_areAlike n s u x1 x2 σ = alk (gq L s) (gq L u) ∧ Kq I10 L10 σ (sX11_areAlike n s u x1 x2 σ) ∧ Knows (sX11_areAlike n s u x1 x2 σ) (gq L u) ∧ Begs (sX11_areAlike n s u x1 x2 σ) (gq L u) ∧ AsideB (sX11_areAlike n s u x1 x2 σ) (gq L s) := by
  obtain ⟨a1, a2, a3⟩ := as_m (n := n) x1 h ok hs
  unfold rX11_areAlike sX11_areAlike
  generalize sX11_asides n s x1 σ = ρ at *
  obtain ⟨k1, k2, k3, k4, k5⟩ := kn_m x2 (h.kq a3) ok hu
  exact ⟨alk_model (okL_at ok hs) (okL_at ok hu) (a1.kq k4) k1 k5, a3.trans (k810 k4), k1, k2, a2.kq k4⟩
theorem fm_m {L : List Mx} {s : Nat} (ok : okL L) (hs : s < L.length) : ∀ (m u : Nat) (x : Int32) (σ : Sg), u + m = L.length → M1 σ L → Aside σ (gq L s) → (fmF m u x σ).1 = famA L s m u x ∧ Kq I10 L10 σ (fmF m u x σ).2
  | 0, _, _, σ, _, _, _ => by rw [fmF, famA]; exact ⟨rfl, Kq.rfl⟩
  | m + 1, u, x, σ, hu, h, ha => by
    obtain ⟨k1, k2, k3, k4, k5⟩ := kn_m (s := u) (nI u) h ok (by omega)
    have e : alU u σ = alk (gq L s) (gq L u) := alk_model (okL_at ok hs) (okL_at ok (by omega)) (ha.kq k4) k1 k5
    have k4' : Kq I8 L8 σ (knU u σ) := k4
    rw [fmF, famA, e]
    by_cases c : alk (gq L s) (gq L u) = true
    · rw [if_pos c, if_pos c]
      obtain ⟨g1, g2⟩ := fm_m ok hs m (u + 1) (x ||| (1 <<< (nI u &&& 31))) (knU u σ) (by omega) (h.kq (k810 k4')) (ha.kq k4')
      exact ⟨g1, (k810 k4').trans g2⟩
    · rw [if_neg c, if_neg c, Int32.or_zero]
      obtain ⟨g1, g2⟩ := fm_m ok hs m (u + 1) x (knU u σ) (by omega) (h.kq (k810 k4')) (ha.kq k4')
      exact ⟨g1, (k810 k4').trans g2⟩
theorem fy_m {σ : Sg} {L : List Mx} {s : Nat} (x : Int32) (h : M1 σ L) (ok : okL L) (hs : s < L.length) : (fmF L.length 0 0 (sX11_asides L.length s x σ)).1 = famA L s L.length 0 0 ∧ Kq I10 L10 σ (fmF L.length 0 0 (sX11_asides L.length s x σ)).2 := by
  obtain ⟨a1, a2, a3⟩ := as_m (n := L.length) x h ok hs
  obtain ⟨g1, g2⟩ := fm_m ok hs L.length 0 0 _ (by omega) (h.kq a3) a1
  exact ⟨g1, a3.trans g2⟩
theorem tw_m {σ : Sg} {L : List Mx} {s : Nat} (x : Int32) (h : M1 σ L) (ok : okL L) (hs : s < L.length) : rX11_isTwin L.length s x σ = alk (gq L s) (mad (gq L s)) ∧ Kq I10 L10 σ (sX11_isTwin L.length s x σ) := by
  obtain ⟨a1, a2, a3⟩ := as_m (n := L.length) x h ok hs
  unfold rX11_isTwin sX11_isTwin
  generalize sX11_asides L.length s x σ = ρ at *
  have am : Am (sX11_takesFrom s x ρ) (gq L s) := am_tf (h.kq a3).2.2 ok hs
  have am2 := am_bk (τ := sX11_takesFrom s x ρ) am
  have kt : Kq I8 L8 ρ (sX11_takes ((sX11_takesFrom s x ρ).2 159 14) (0 - (sX11_takesFrom s x ρ).2 159 12) (0 - (sX11_takesFrom s x ρ).2 159 13) ((sX11_takesFrom s x ρ).2 159 11) (sX11_takesFrom s x ρ)) := kq_tk.trans kq_tk
  have et : twF (sX11_takesFrom s x ρ) = sX11_takes ((sX11_takesFrom s x ρ).2 159 14) (0 - (sX11_takesFrom s x ρ).2 159 12) (0 - (sX11_takesFrom s x ρ).2 159 13) ((sX11_takesFrom s x ρ).2 159 11) (sX11_takesFrom s x ρ) := rfl
  rw [et]
  generalize sX11_takes ((sX11_takesFrom s x ρ).2 159 14) (0 - (sX11_takesFrom s x ρ).2 159 12) (0 - (sX11_takesFrom s x ρ).2 159 13) ((sX11_takesFrom s x ρ).2 159 11) (sX11_takesFrom s x ρ) = μ at *
  have oA := okL_at ok hs
  obtain ⟨k1, k2, k3⟩ := kn_ok am2 (mad_ok oA)
  have kk : Kq I8 L8 ρ (sKn μ) := kt.trans (kq_sKn k1)
  exact ⟨alk_model oA (mad_ok oA) (a1.kq kk) k2 (kM_w k2 (mad_ok oA)), a3.trans (k810 kk)⟩
theorem mi_m {σ : Sg} {L : List Mx} {s : Nat} (x : Int32) (h : M1 σ L) (ok : okL L) (hs : s < L.length) : rX11_isMirrored L.length s x σ = alk (gq L s) (mmr (gq L s)) ∧ Kq I10 L10 σ (sX11_isMirrored L.length s x σ) := by
  obtain ⟨a1, a2, a3⟩ := as_m (n := L.length) x h ok hs
  unfold rX11_isMirrored sX11_isMirrored
  generalize sX11_asides L.length s x σ = ρ at *
  have am : Am (sX11_takesFrom s x ρ) (gq L s) := am_tf (h.kq a3).2.2 ok hs
  have am2 := am_mi (τ := sX11_takesFrom s x ρ) am
  have kt : Kq I8 L8 ρ (sX11_takes ((sX11_takesFrom s x ρ).2 159 11) (0 - (sX11_takesFrom s x ρ).2 159 12) (0 - (sX11_takesFrom s x ρ).2 159 13) ((sX11_takesFrom s x ρ).2 159 14) (sX11_takesFrom s x ρ)) := kq_tk.trans kq_tk
  have et : miF (sX11_takesFrom s x ρ) = sX11_takes ((sX11_takesFrom s x ρ).2 159 11) (0 - (sX11_takesFrom s x ρ).2 159 12) (0 - (sX11_takesFrom s x ρ).2 159 13) ((sX11_takesFrom s x ρ).2 159 14) (sX11_takesFrom s x ρ) := rfl
  rw [et]
  generalize sX11_takes ((sX11_takesFrom s x ρ).2 159 11) (0 - (sX11_takesFrom s x ρ).2 159 12) (0 - (sX11_takesFrom s x ρ).2 159 13) ((sX11_takesFrom s x ρ).2 159 14) (sX11_takesFrom s x ρ) = μ at *
  have oA := okL_at ok hs
  obtain ⟨k1, k2, k3⟩ := kn_ok am2 (mmr_ok oA)
  have kk : Kq I8 L8 ρ (sKn μ) := kt.trans (kq_sKn k1)
  exact ⟨alk_model oA (mmr_ok oA) (a1.kq kk) k2 (kM_w k2 (mmr_ok oA)), a3.trans (k810 kk)⟩
theorem tws_m {L : List Mx} (ok : okL L) : ∀ (m s : Nat) (x : Int32) (σ : Sg), s + m = L.length → M1 σ L → (twsF L.length m s x σ).1 = twA L m s x ∧ Kq I10 L10 σ (twsF L.length m s x σ).2
  | 0, _, _, σ, _, _ => by rw [twsF, twA]; exact ⟨rfl, Kq.rfl⟩
  | m + 1, s, x, σ, hs, h => by
    obtain ⟨g1, g2⟩ := tw_m (s := s) (nI s) h ok (by omega)
    rw [twsF, twA, g1, Int32.add_zero]
    obtain ⟨k1, k2⟩ := tws_m ok m (s + 1) (if alk (gq L s) (mad (gq L s)) = true then x + 1 else x) (sX11_isTwin L.length s (nI s) σ) (by omega) (h.kq g2)
    exact ⟨k1, g2.trans k2⟩
theorem wg_m {L : List Mx} {B : Bk} (ok : okL L) (hB : B.length ≤ 20) : ∀ (m k : Nat) (σ : Sg), k + m = B.length → M1 σ L → (∀ i, i < B.length → σ.1 165 (3 * i) = (gb B i).1 ∧ σ.1 165 (3 * i + 1) = (gb B i).2.1 ∧ σ.1 165 (3 * i + 2) = bI (gb B i).2.2) → (wgF L.length m k σ).1 = fwA L B m k ∧ Kq I10 L10 σ (wgF L.length m k σ).2
  | 0, _, σ, _, _, _ => by rw [wgF, fwA]; exact ⟨rfl, Kq.rfl⟩
  | m + 1, k, σ, hk, h, hb => by
    obtain ⟨d1, d2, d3⟩ := hb k (by omega)
    have h1 := has_m h (gb B k).1
    have h2 := has_m h (gb B k).2.1
    rw [wgF, fwA, d1, d2]
    by_cases c1 : hsx (gb B k).1 L.length
    · rw [if_pos (h1.mpr c1)]
      by_cases c2 : hsx (gb B k).2.1 L.length
      · rw [if_pos (h2.mpr c2)]
        obtain ⟨g1, g2, _, _, _⟩ := al_m (n := L.length) (gb B k).1 (gb B k).2.1 h ok (hsx_e c1).2 (hsx_e c2).2
        have eA : wgA L.length k σ = alk (gq L (gb B k).1.toNatClampNeg) (gq L (gb B k).2.1.toNatClampNeg) := by unfold wgA; rw [d1, d2]; exact g1
        have eS : Kq I10 L10 σ (wgS L.length k σ) := by unfold wgS; rw [d1, d2]; exact g2
        have e166 : (wgS L.length k σ).1 165 = σ.1 165 := kq166 eS
        obtain ⟨k1, k2⟩ := wg_m ok hB m (k + 1) (wgS L.length k σ) (by omega) (h.kq eS) (fun i hi => by rw [e166]; exact hb i hi)
        rw [e166, d3, eA]
        generalize alk (gq L (gb B k).1.toNatClampNeg) (gq L (gb B k).2.1.toNatClampNeg) = z at *
        cases hz : (gb B k).2.2
        · rw [hz] at *
          rw [if_neg (show ¬ bI false = 1 by decide)]
          cases z
          · rw [if_pos bI_f, if_pos ⟨c1, c2, rfl⟩]; exact ⟨k1, eS.trans k2⟩
          · rw [if_neg (show ¬ bI true = 0 by decide), if_neg (fun q => by cases q.2.2)]; exact ⟨rfl, eS⟩
        · rw [hz] at *
          rw [if_pos bI_t]
          cases z
          · rw [if_neg (show ¬ bI false = 1 by decide), if_neg (fun q => by cases q.2.2)]; exact ⟨rfl, eS⟩
          · rw [if_pos bI_t, if_pos ⟨c1, c2, rfl⟩]; exact ⟨k1, eS.trans k2⟩
      · rw [if_neg (fun z => c2 (h2.mp z)), if_neg (fun z => c2 z.2.1)]; exact ⟨rfl, Kq.rfl⟩
    · rw [if_neg (fun z => c1 (h1.mp z)), if_neg (fun z => c1 z.1)]; exact ⟨rfl, Kq.rfl⟩
end
