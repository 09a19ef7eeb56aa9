noncomputable section
def spl (T : List Int32) : Nat → Nat → Mx → (Nat × Nat) ⊕ Mx
  | 0, _, C => .inr C
  | m + 1, k, C => match ltr (T.getD k 0) with
    | none => .inl (1, k)
    | some M => @ite _ (bdM (mm C M)) (Classical.propDecidable _) (spl T m (k + 1) (mm C M)) (.inl (2, k))
theorem spl_n {T : List Int32} {m k : Nat} {C : Mx} (h : ltr (T.getD k 0) = none) : spl T (m + 1) k C = .inl (1, k) := by rw [spl, h]
theorem spl_s {T : List Int32} {m k : Nat} {C M : Mx} (h : ltr (T.getD k 0) = some M) (hb : bdM (mm C M)) : spl T (m + 1) k C = spl T m (k + 1) (mm C M) := by rw [spl, h]; exact if_pos hb
theorem spl_o {T : List Int32} {m k : Nat} {C M : Mx} (h : ltr (T.getD k 0) = some M) (hb : ¬ bdM (mm C M)) : spl T (m + 1) k C = .inl (2, k) := by rw [spl, h]; exact if_neg hb
theorem sp_c {L : List Mx} {Q : List (List Mx)} {q : Nat} {I : Ims} {T : List Int32} {B : Bk} {sd : Int32} : ∀ (m j : Nat) (σ : Sg) (C : Mx), j + m = T.length → RC σ L Q q I T (-1) B sd → At σ 152 C → okM C → hiS σ (spF 152 m j σ).2 ∧ (∀ D, spl T m j C = .inr D → (spF 152 m j σ).1 = 0 ∧ RC (spF 152 m j σ).2 L Q q I T (-1) B sd ∧ At (spF 152 m j σ).2 152 D ∧ okM D) ∧ (∀ p : Nat × Nat, spl T m j C = .inl p → (spF 152 m j σ).1 = nI p.1 ∧ (p.1 = 1 ∨ p.1 = 2) ∧ RC (spF 152 m j σ).2 L Q q I T (nI p.2) B sd)
  | 0, j, σ, C, hj, hc, ha, hC => by
    rw [spF, spl]
    exact ⟨hi_rfl, fun D hD => (by rw [← Sum.inr.inj hD]; exact ⟨rfl, hc, ha, hC⟩), fun p hp => (nomatch hp)⟩
  | m + 1, j, σ, C, hj, hc, ha, hC => by
    have tj : σ.1 46 j = T.getD j 0 := hc.2.2.2.1.2.2.1 j (by omega)
    rw [spF, tj]
    obtain ⟨k1, k2, k3, k4⟩ := mbl_c (x := T.getD j 0) ha
    have fault : ∀ (μ : Sg), RC μ L Q q I T (-1) B sd → RC ((u2 μ.1 45 2 (nI j), μ.2) : Sg) L Q q I T (nI j) B sd := by
      intro μ hμ
      obtain ⟨t1, t2, t3, t4⟩ := hμ.2.2.2.1
      refine RC.text (σ := μ) (fun a _ h45 _ => u2k h45) (fun _ _ => rfl) ⟨?_, t2, fun i hi => ?_, ?_⟩ hμ
      · dsimp only; rw [u2_j (by decide)]; exact t1
      · dsimp only; rw [u2_k (by decide)]; exact t3 i hi
      · dsimp only; rw [u2_eq]
    cases hl : ltr (T.getD j 0) with
    | none =>
      obtain ⟨n1, n2⟩ := k2 hl
      rw [n1, if_neg (by decide), n2]
      refine ⟨fun a ha => u2k (by omega), fun D hD => ?_, fun p hp => ?_⟩
      · rw [spl_n hl] at hD; cases hD
      · rw [spl_n hl] at hp
        rw [← Sum.inl.inj hp]
        exact ⟨rfl, Or.inl rfl, fault σ hc⟩
    | some M =>
      obtain ⟨n1, n2⟩ := k1 M hl
      have okM' := ltr_ok hl
      have rc0 : RC (sX6_multiplyByLetter 152 (T.getD j 0) σ) L Q q I T (-1) B sd := RC.fr (σ := σ) (fun a _ => by rw [k3]) (fun a ha => k4 a (by omega)) hc
      have hi0 : hiS σ (sX6_multiplyByLetter 152 (T.getD j 0) σ) := fun a _ => by rw [k3]
      have w0 := at_within n2 (rg_mm hC.2 okM'.2)
      rw [n1, if_pos rfl]
      generalize sX6_multiplyByLetter 152 (T.getD j 0) σ = μ at *
      by_cases b0 : bdM (mm C M)
      · rw [if_pos (w0.mpr b0), spl_s hl b0]
        obtain ⟨g1, g2, g3⟩ := sp_c m (j + 1) μ (mm C M) (by omega) rc0 n2 (mm_ok hC okM' b0)
        exact ⟨fun a ha => (g1 a ha).trans (hi0 a ha), g2, g3⟩
      · rw [if_neg (fun z => b0 (w0.mp z)), spl_o hl b0]
        refine ⟨fun a ha => (u2k (by omega)).trans (hi0 a ha), fun D hD => (nomatch hD), fun p hp => ?_⟩
        rw [← Sum.inl.inj hp]
        exact ⟨rfl, Or.inr rfl, fault μ rc0⟩
theorem sp_m {L : List Mx} {Q : List (List Mx)} {I : Ims} {T : List Int32} {fa : Int32} {B : Bk} {sd : Int32} (hn : L.length < 12) : ∀ (m j : Nat) (σ : Sg) (C : Mx), j + m = T.length → RM σ L Q I [] fa B sd → (∀ i, i < T.length → σ.1 164 i = T.getD i 0) → Am σ C → okM C → loS σ (wrF Q.length L.length m j σ).2 ∧ (∀ D, spl T m j C = .inr D → (wrF Q.length L.length m j σ).1 = nI L.length ∧ RM (wrF Q.length L.length m j σ).2 (L ++ [D]) (psh Q L) I [] (-1) B sd) ∧ (∀ p : Nat × Nat, spl T m j C = .inl p → (wrF Q.length L.length m j σ).1 = (-10) - nI p.1 ∧ RM (wrF Q.length L.length m j σ).2 L Q I [] (nI p.2) B sd)
  | 0, j, σ, C, hj, hm, ht, ha, hC => by
    rw [wrF, spl]
    unfold wrE
    have hm1 : RM ((u2 σ.1 159 8 (-1), σ.2) : Sg) L Q I [] (-1) B sd := by
      obtain ⟨t1, t2, t3⟩ := hm.2.2.2.1
      refine RM.text (σ := σ) (fun a h160 _ _ => u2k h160) (fun j _ h8 => u2_j h8) ⟨?_, fun i hi => by simp at hi, ?_⟩ hm
      · dsimp only; rw [u2_j (by decide)]; exact t1
      · dsimp only; rw [u2_eq]
    have am1 : Am ((u2 σ.1 159 8 (-1), σ.2) : Sg) C := am_fr ⟨rfl, rfl, rfl, rfl⟩ ha
    have lo1 : loS σ ((u2 σ.1 159 8 (-1), σ.2) : Sg) := fun a ha => ⟨u2k (by omega), rfl⟩
    obtain ⟨p1, p2, p3, p4⟩ := rm_puts hm1 hn am1
    refine ⟨lo_trans lo1 (fun a ha => ⟨p4 a ha, by rw [p3]⟩), fun D hD => ?_, fun p hp => (nomatch hp)⟩
    rw [← Sum.inr.inj hD]
    exact ⟨p1, p2⟩
  | m + 1, j, σ, C, hj, hm, ht, ha, hC => by
    rw [wrF, ht j (by omega)]
    obtain ⟨k1, k2, k3, k4⟩ := mbl_m (x := T.getD j 0) ha
    have fault : ∀ (μ : Sg), RM μ L Q I [] fa B sd → RM ((u2 μ.1 159 8 (nI j), μ.2) : Sg) L Q I [] (nI j) B sd := by
      intro μ hμ
      obtain ⟨t1, t2, t3⟩ := hμ.2.2.2.1
      refine RM.text (σ := μ) (fun a h160 _ _ => u2k h160) (fun j _ h8 => u2_j h8) ⟨?_, fun i hi => by simp at hi, ?_⟩ hμ
      · dsimp only; rw [u2_j (by decide)]; exact t1
      · dsimp only; rw [u2_eq]
    cases hl : ltr (T.getD j 0) with
    | none =>
      rw [if_pos (k2 hl), spl_n hl]
      refine ⟨fun a ha => ⟨u2k (by omega), rfl⟩, fun D hD => (nomatch hD), fun p hp => ?_⟩
      rw [← Sum.inl.inj hp]
      exact ⟨(show (-11 : Int32) = (-10) - nI 1 by decide +kernel), fault σ hm⟩
    | some M =>
      obtain ⟨n1, n2⟩ := k1 M hl
      have okM' := ltr_ok hl
      have e1 := k3 (rX11_letterOf (T.getD j 0) σ)
      have lo1 := k4 (rX11_letterOf (T.getD j 0) σ)
      have rm1 : RM (sX11_comes (rX11_letterOf (T.getD j 0) σ) σ) L Q I [] fa B sd := RM.fr (σ := σ) (fun a j _ => by rw [e1]) hm
      rw [if_neg n1]
      generalize sX11_comes (rX11_letterOf (T.getD j 0) σ) σ = μ at *
      have wl := am_well n2 (rg_mm hC.2 okM'.2)
      by_cases b0 : bdM (mm C M)
      · rw [if_pos (wl.mpr b0), spl_s hl b0]
        obtain ⟨g1, g2, g3⟩ := sp_m (T := T) hn m (j + 1) μ (mm C M) (by omega) rm1 (fun i hi => by rw [e1]; exact ht i hi) n2 (mm_ok hC okM' b0)
        exact ⟨lo_trans lo1 g1, g2, g3⟩
      · rw [if_neg (fun z => b0 (wl.mp z)), spl_o hl b0]
        refine ⟨lo_trans lo1 (fun a ha => ⟨u2k (by omega), rfl⟩), fun D hD => (nomatch hD), fun p hp => ?_⟩
        rw [← Sum.inl.inj hp]
        exact ⟨(show (-12 : Int32) = (-10) - nI 2 by decide +kernel), fault μ rm1⟩
theorem k_write {σ : Sg} (h : Rel σ) : StK σ yX10_write cX10_write 2 yX11_write cX11_write 4 [] := by
  obtain ⟨⟨L, Q, I, T, fa, B, sd⟩, h1, h2⟩ := h
  obtain ⟨q, hc⟩ := h1.q
  have sh := hc.1
  have ok := sh.2.1
  have hq := hc.2.1
  have c4 := hc.2.2.2.1
  have fu := full_c sh
  have evc := fun (l : Launch) (b : Nat) (cy : Nat → ClassId) (D : va_G) => ev_X10_write (l := l) (b := b) (cy := cy) (D := D) (d := 3) hq.2.1 hq.1 sh.1 ok.1 c4.1 c4.2.1
  have evm := fun (ρ : Sg) (hr' : RMs ρ (L, Q, I, T, fa, B, sd)) (l : Launch) (b : Nat) (cy : Nat → ClassId) (D : va_G) => ev_X11_write (l := l) (b := b) (cy := cy) (D := D) (d := 4) hr'.2.1.1 hr'.2.1.2.1 hr'.1.1 hr'.1.2.1 hr'.2.2.2.1.1 c4.2.1
  by_cases f : L.length = 12
  · refine StK.mk (F := (-1000000004, (L, Q, I, T, fa, B, sd))) h2 ?_ (fun ρ hr' => ?_)
    · refine StC.of evc (if_pos (fu.mpr f)) ?_ ?_
      · unfold sX10_write; rw [if_pos (fu.mpr f)]; exact h1
      · unfold sX10_write; rw [if_pos (fu.mpr f)]; exact hi_rfl
    · have e : wrR Q.length L.length T.length ρ = (-1000000004, ρ) := if_pos f
      exact StM.of (evm ρ hr') (by rw [e]) (by rw [e]; exact hr') (by rw [e]; exact lo_rfl)
  · have hn : L.length < 12 := by have := ok.1; omega
    have nf : ¬ rX5_isFull 1 2 σ = true := fun z => f (fu.mp z)
    -- the class begins
    have rcA : RC (sX6_setOne 152 σ) L Q q I T fa B sd := rc_tmp (by omega) hc
    have rc0 : RC (sp0 152 σ) L Q q I T (-1) B sd := by
      obtain ⟨t1, t2, t3, t4⟩ := rcA.2.2.2.1
      refine RC.text (σ := sX6_setOne 152 σ) (fun a _ h45 _ => u2k h45) (fun _ _ => rfl) ⟨?_, t2, fun i hi => ?_, ?_⟩ rcA
      · unfold sp0; dsimp only; rw [u2_j (by decide)]; exact t1
      · unfold sp0; dsimp only; rw [u2_k (by decide)]; exact t3 i hi
      · unfold sp0; dsimp only; rw [u2_eq]
    have at0 : At (sp0 152 σ) 152 mo := at_fr2 (σ := sX6_setOne 152 σ) rfl (at_sq rfl rfl rfl rfl)
    have hi0 : hiS σ (sp0 152 σ) := fun a ha => by unfold sp0; dsimp only; rw [u2k (by omega)]; rfl
    obtain ⟨g1, g2, g3⟩ := sp_c T.length 0 (sp0 152 σ) mo (by omega) rc0 at0 mo_ok
    have clr : ∀ (μ : Sg) (x : Int32), RC μ L Q q I T x B sd → RC (sX7_clear μ) L Q q I [] x B sd := by
      intro μ x hμ
      obtain ⟨t1, t2, t3, t4⟩ := hμ.2.2.2.1
      refine RC.text (σ := μ) (fun a _ h45 _ => u2k h45) (fun _ _ => rfl) ⟨?_, by simp, fun i hi => by simp at hi, ?_⟩ hμ
      · unfold sX7_clear; dsimp only; rw [u2_eq]; rfl
      · unfold sX7_clear; dsimp only; rw [u2_j (by decide)]; exact t4
    have chi : ∀ μ : Sg, hiS μ (sX7_clear μ) := fun μ a ha => u2k (by omega)
    -- the reference begins
    have mo' : ∀ ρ : Sg, RMs ρ (L, Q, I, T, fa, B, sd) → wrR Q.length L.length T.length ρ = wrF Q.length L.length T.length 0 (wr0 ρ) ∧ RM (wr0 ρ) L Q I [] fa B sd ∧ (∀ i, i < T.length → (wr0 ρ).1 164 i = T.getD i 0) ∧ Am (wr0 ρ) mo ∧ loS ρ (wr0 ρ) := by
      intro ρ hr'
      obtain ⟨t1, t2, t3⟩ := hr'.2.2.2.1
      refine ⟨if_neg f, ?_, fun i hi => ?_, am_fr (σ := sX11_takes 1 0 0 1 ρ) ⟨rfl, rfl, rfl, rfl⟩ (am_tk rfl rfl rfl rfl), lo_trans (lo_tk (x := 1) (y := 0) (z := 0) (w := 1)) (fun a ha => ⟨u2k (by omega), rfl⟩)⟩
      · have : RMs (sX11_takes 1 0 0 1 ρ) (L, Q, I, T, fa, B, sd) := RMs.tk hr'
        refine RM.text (σ := sX11_takes 1 0 0 1 ρ) (fun a h160 _ _ => u2k h160) (fun j h7 _ => u2_j h7) ⟨?_, fun i hi => by simp at hi, ?_⟩ this
        · unfold wr0; dsimp only; rw [u2_eq]; rfl
        · unfold wr0; dsimp only; rw [u2_j (by decide)]; exact t3
      · unfold wr0; dsimp only; rw [u2_k (by decide)]; exact t2 i hi
    cases hS : spl T T.length 0 mo with
    | inr D =>
      obtain ⟨a1, a2, a3, a4⟩ := g2 D hS
      refine StK.mk (F := (nI L.length, (L ++ [D], psh Q L, I, [], -1, B, sd))) h2 ?_ (fun ρ hr' => ?_)
      · have ce1 : rX10_write q L.length T.length σ = rX10_place 152 q L.length (sX7_clear (spF 152 T.length 0 (sp0 152 σ)).2) := by
          unfold rX10_write; rw [if_neg nf, if_pos a1]
        have ce2 : sX10_write q L.length T.length σ = sX10_place 152 q L.length (sX7_clear (spF 152 T.length 0 (sp0 152 σ)).2) := by
          unfold sX10_write; rw [if_neg nf, if_pos a1]
        generalize (spF 152 T.length 0 (sp0 152 σ)).2 = μ at *
        obtain ⟨p1, p2, p3⟩ := rc_place (clr μ _ a2) hn (at_fr2 (σ := μ) rfl a3) a4
        refine StC.of evc ?_ ?_ ?_
        · rw [ce1]; rfl
        · rw [ce2]; exact ⟨_, p1⟩
        · rw [ce2]; exact fun a ha => ((p2 a ha).trans (chi μ a ha)).trans ((g1 a ha).trans (hi0 a ha))
      · obtain ⟨m1, m2, m3, m4, m5⟩ := mo' ρ hr'
        obtain ⟨b1, b2, b3⟩ := sp_m hn T.length 0 (wr0 ρ) mo (by omega) m2 m3 m4 mo_ok
        obtain ⟨d1, d2⟩ := b2 D hS
        exact StM.of (evm ρ hr') (by rw [m1]; exact d1) (by rw [m1]; exact d2) (by rw [m1]; exact lo_trans m5 b1)
    | inl p =>
      obtain ⟨a1, a2, a3⟩ := g3 p hS
      refine StK.mk (F := ((-10) - nI p.1, (L, Q, I, [], nI p.2, B, sd))) h2 ?_ (fun ρ hr' => ?_)
      · have nz : ¬ (spF 152 T.length 0 (sp0 152 σ)).1 = 0 := by
          rw [a1]; rcases a2 with z | z <;> (rw [z]; decide)
        have ce1 : rX10_write q L.length T.length σ = (-10) - nI p.1 := by
          unfold rX10_write; rw [if_neg nf, if_neg nz, a1]
        have ce2 : sX10_write q L.length T.length σ = sX7_clear (spF 152 T.length 0 (sp0 152 σ)).2 := by
          unfold sX10_write; rw [if_neg nf, if_neg nz]
        refine StC.of evc ce1 ?_ ?_
        · rw [ce2]; exact ⟨q, clr _ _ a3⟩
        · rw [ce2]; exact fun a ha => (chi _ a ha).trans ((g1 a ha).trans (hi0 a ha))
      · obtain ⟨m1, m2, m3, m4, m5⟩ := mo' ρ hr'
        obtain ⟨b1, b2, b3⟩ := sp_m hn T.length 0 (wr0 ρ) mo (by omega) m2 m3 m4 mo_ok
        obtain ⟨d1, d2⟩ := b3 p hS
        exact StM.of (evm ρ hr') (by rw [m1]; exact d1) (by rw [m1]; exact d2) (by rw [m1]; exact lo_trans m5 b1)
end
