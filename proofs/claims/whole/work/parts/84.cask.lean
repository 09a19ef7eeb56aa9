/-! What is asked of the class. -/
noncomputable section
theorem RC.kin {σ τ : Sg} {L : List Mx} {Q : List (List Mx)} {q : Nat} {I : Ims} {T : List Int32} {fa : Int32} {B : Bk} {sd : Int32} (e : ∀ a, a < 159 → (a < 51 ∨ (59 < a ∧ a < 65) ∨ 148 < a) → τ.1 a = σ.1 a) (h7 : C7 τ) (h : RC σ L Q q I T fa B sd) : RC τ L Q q I T fa B sd := by
  obtain ⟨h1, h2, h3, h4, h5, h6, _⟩ := h
  exact ⟨h1.fr (e _ (by omega) (by omega)) (e _ (by omega) (by omega)), h2.fr (fun a ha => e a (by omega) (by omega)), h3.fr (fun a _ _ => e a (by omega) (by omega)), h4.fr (fun a _ _ => e a (by omega) (by omega)), h5.fr (fun a _ _ => e a (by omega) (by omega)), h6.fr (e _ (by omega) (by omega)), h7⟩
def KA (τ : Sg) (L : List Mx) (n : Nat) : Prop := ∀ u, u < n → KinOk τ (65 + 7 * u) (65 + 7 * u + 1) (65 + 7 * u + 2) (65 + 7 * u + 3) (gq L u)
theorem la_st {σ : Sg} {L : List Mx} {Q : List (List Mx)} {q : Nat} {I : Ims} {T : List Int32} {fa : Int32} {B : Bk} {sd : Int32} {s : Nat} (hc : RC σ L Q q I T fa B sd) (hs : s < L.length) (hk : KA σ L s) : RC (laS s σ) L Q q I T fa B sd ∧ KA (laS s σ) L (s + 1) ∧ hiS σ (laS s σ) := by
  have hl := hc.1.2.1.1
  have r0 : RC (ldS 2 60 s σ) L Q q I T fa B sd := rc_tmp (by omega) hc
  have a0 : At (ldS 2 60 s σ) 60 (gq L s) := ld_at hc.1.2.2 hc.1.2.1 hs
  have kk : ∀ u, u < s → KinOk (ldS 2 60 s σ) (65 + 7 * u) (65 + 7 * u + 1) (65 + 7 * u + 2) (65 + 7 * u + 3) (gq L u) := fun u hu => (hk u hu).fr (lds_2 (by omega)) rfl rfl rfl
  have hi0 : hiS σ (ldS 2 60 s σ) := fun _ _ => rfl
  unfold laS
  generalize ldS 2 60 s σ = ρ at *
  have kn := look_kin (k := 65 + 7 * s) (s := 65 + 7 * s + 1) (h := 65 + 7 * s + 2) (r := 65 + 7 * s + 3) (e := 65 + 7 * s + 4) (w := 65 + 7 * s + 5) (p := 65 + 7 * s + 6) (i := 60) (by omega) (by omega) (by omega) (by omega) (by omega) (by omega) (okL_at hc.1.2.1 hs) a0 (r0.2.2.2.2.2.2.1 s (by omega))
  have f1 : ∀ a, a ≠ 65 + 7 * s → a ≠ 65 + 7 * s + 2 → a ≠ 65 + 7 * s + 3 → (sX3_lookAt (65 + 7 * s) (65 + 7 * s + 1) (65 + 7 * s + 2) (65 + 7 * s + 3) (65 + 7 * s + 4) (65 + 7 * s + 5) (65 + 7 * s + 6) 60 ρ).1 a = ρ.1 a := fun a h1 h2 h3 => look_1 h1 h2 h3
  have f2 : ∀ a, a ≠ 65 + 7 * s + 1 → a ≠ 65 + 7 * s + 4 → a ≠ 65 + 7 * s + 6 → (sX3_lookAt (65 + 7 * s) (65 + 7 * s + 1) (65 + 7 * s + 2) (65 + 7 * s + 3) (65 + 7 * s + 4) (65 + 7 * s + 5) (65 + 7 * s + 6) 60 ρ).2 a = ρ.2 a := fun a h1 h2 h3 => look_2 h1 h2 h3
  generalize sX3_lookAt (65 + 7 * s) (65 + 7 * s + 1) (65 + 7 * s + 2) (65 + 7 * s + 3) (65 + 7 * s + 4) (65 + 7 * s + 5) (65 + 7 * s + 6) 60 ρ = τ at *
  refine ⟨r0.kin (fun a _ ha => f1 a (by omega) (by omega) (by omega)) ⟨fun u hu => ?_, ?_⟩, fun u hu => ?_, fun a ha => (f1 a (by omega) (by omega) (by omega)).trans (hi0 a ha)⟩
  · by_cases c : u = s
    · subst c; exact kn.c (okL_at hc.1.2.1 hs)
    · exact (r0.2.2.2.2.2.2.1 u hu).fr (f2 _ (by omega) (by omega) (by omega)) (f1 _ (by omega) (by omega) (by omega)) (f1 _ (by omega) (by omega) (by omega)) (f1 _ (by omega) (by omega) (by omega))
  · exact r0.2.2.2.2.2.2.2.fr (f2 _ (by omega) (by omega) (by omega)) (f1 _ (by omega) (by omega) (by omega)) (f1 _ (by omega) (by omega) (by omega)) (f1 _ (by omega) (by omega) (by omega))
  · by_cases c : u = s
    · subst c; exact kn
    · exact (kk u (by omega)).fr (f2 _ (by omega) (by omega) (by omega)) (f1 _ (by omega) (by omega) (by omega)) (f1 _ (by omega) (by omega) (by omega)) (f1 _ (by omega) (by omega) (by omega))
theorem la_go {L : List Mx} {Q : List (List Mx)} {q : Nat} {I : Ims} {T : List Int32} {fa : Int32} {B : Bk} {sd : Int32} : ∀ (m s : Nat) (σ : Sg), s + m = L.length → RC σ L Q q I T fa B sd → KA σ L s → RC (laF m s σ) L Q q I T fa B sd ∧ KA (laF m s σ) L L.length ∧ hiS σ (laF m s σ)
  | 0, s, σ, hs, hc, hk => by rw [laF]; rw [show s = L.length by omega] at hk; exact ⟨hc, hk, hi_rfl⟩
  | m + 1, s, σ, hs, hc, hk => by
    rw [laF]
    obtain ⟨g1, g2, g3⟩ := la_st hc (by omega) hk
    obtain ⟨k1, k2, k3⟩ := la_go m (s + 1) (laS s σ) (by omega) g1 g2
    exact ⟨k1, k2, fun a ha => (k3 a ha).trans (g3 a ha)⟩
theorem la0_rc {σ : Sg} {L : List Mx} {Q : List (List Mx)} {q : Nat} {I : Ims} {T : List Int32} {fa : Int32} {B : Bk} {sd : Int32} (hc : RC σ L Q q I T fa B sd) : RC (la0 σ) L Q q I T fa B sd := hc.kin (fun a _ ha => la0_1 (by omega)) (hc.2.2.2.2.2.2.fr (fun a ha => ⟨la0_1 (by omega), rfl⟩))
theorem la_ok {σ : Sg} {L : List Mx} {Q : List (List Mx)} {q : Nat} {I : Ims} {T : List Int32} {fa : Int32} {B : Bk} {sd : Int32} (hc : RC σ L Q q I T fa B sd) : RC (laR L.length σ) L Q q I T fa B sd ∧ KA (laR L.length σ) L L.length ∧ hiS σ (laR L.length σ) := by
  obtain ⟨g1, g2, g3⟩ := la_go L.length 0 (la0 σ) (by omega) (la0_rc hc) (fun u hu => absurd hu (Nat.not_lt_zero _))
  exact ⟨g1, g2, fun a ha => (g3 a ha).trans (la0_1 (by omega))⟩
theorem ca_al {τ : Sg} {L : List Mx} (ok : okL L) (hk : KA τ L L.length) {s u : Nat} (hs : s < L.length) (hu : u < L.length) (x1 x2 : Int32) : rX2_areAlike s u x1 x2 τ = alk (gq L s) (gq L u) := alk_class (okL_at ok hs) (okL_at ok hu) (hk s hs) (hk u hu)
def famA (L : List Mx) (s : Nat) : Nat → Nat → Int32 → Int32
  | 0, _, a => a
  | m + 1, u, a => famA L s m (u + 1) (if alk (gq L s) (gq L u) = true then a ||| (1 <<< (nI u &&& 31)) else a)
theorem fam_c {τ : Sg} {L : List Mx} (ok : okL L) (hk : KA τ L L.length) {s : Nat} (hs : s < L.length) : ∀ (m u : Nat) (a : Int32), u + m = L.length → famF τ s m u a = famA L s m u a
  | 0, _, _, _ => rfl
  | m + 1, u, a, h => by
    rw [famF, famA]
    unfold al
    rw [ca_al ok hk hs (by omega), fam_c ok hk hs m (u + 1) _ (by omega)]
def cfaA (L : List Mx) : Nat → Nat → Int32 → Int32
  | 0, _, a => a
  | m + 1, u, a => cfaA L m (u + 1) (if rJ6_numberOfTrailingZeros_0f7a4 (famA L u L.length 0 0) ((fun _ _ => 0, fun _ _ => 0) : Sg) = nI u then a + 1 else a)
theorem cfa_c {τ : Sg} {L : List Mx} (ok : okL L) (hk : KA τ L L.length) : ∀ (m u : Nat) (a : Int32), u + m = L.length → cfaF τ L.length m u a = cfaA L m u a
  | 0, _, _, _ => rfl
  | m + 1, u, a, h => by
    rw [cfaF, cfaA, fam_c ok hk (by omega) L.length 0 0 (by omega), cfa_c ok hk m (u + 1) _ (by omega)]
    rfl
def gfaA (L : List Mx) : Nat → Nat → Int32 → Int32
  | 0, _, a => a
  | m + 1, u, a => gfaA L m (u + 1) (if rJ6_bitCount_0f7a4 (famA L u L.length 0 0) ((fun _ _ => 0, fun _ _ => 0) : Sg) ≤ rJ6_bitCount_0f7a4 a ((fun _ _ => 0, fun _ _ => 0) : Sg) then a else famA L u L.length 0 0)
theorem gfa_c {τ : Sg} {L : List Mx} (ok : okL L) (hk : KA τ L L.length) : ∀ (m u : Nat) (a : Int32), u + m = L.length → gfaF τ L.length m u a = gfaA L m u a
  | 0, _, _, _ => rfl
  | m + 1, u, a, h => by
    rw [gfaF, gfaA, fam_c ok hk (by omega) L.length 0 0 (by omega), gfa_c ok hk m (u + 1) _ (by omega)]
    rfl
/-- the strange one -/
theorem str_st {σ : Sg} {L : List Mx} {Q : List (List Mx)} {q : Nat} {I : Ims} {T : List Int32} {fa : Int32} {B : Bk} {sd : Int32} {A : Mx} (hc : RC σ L Q q I T fa B sd) (hk : KA σ L L.length) (ha : At σ 60 A) (hA : okM A) : RC (sX3_lookAt 53 54 55 56 57 58 59 60 σ) L Q q I T fa B sd ∧ KA (sX3_lookAt 53 54 55 56 57 58 59 60 σ) L L.length ∧ KinOk (sX3_lookAt 53 54 55 56 57 58 59 60 σ) 53 54 55 56 A ∧ hiS σ (sX3_lookAt 53 54 55 56 57 58 59 60 σ) := by
  have kn := look_kin (k := 53) (s := 54) (h := 55) (r := 56) (e := 57) (w := 58) (p := 59) (i := 60) (by decide) (by decide) (by decide) (by decide) (by decide) (by decide) hA ha hc.2.2.2.2.2.2.2
  have f1 : ∀ a, a ≠ 53 → a ≠ 55 → a ≠ 56 → (sX3_lookAt 53 54 55 56 57 58 59 60 σ).1 a = σ.1 a := fun a h1 h2 h3 => look_1 h1 h2 h3
  have f2 : ∀ a, a ≠ 54 → a ≠ 57 → a ≠ 59 → (sX3_lookAt 53 54 55 56 57 58 59 60 σ).2 a = σ.2 a := fun a h1 h2 h3 => look_2 h1 h2 h3
  generalize sX3_lookAt 53 54 55 56 57 58 59 60 σ = τ at *
  refine ⟨hc.kin (fun a _ ha => f1 a (by omega) (by omega) (by omega)) ⟨fun u hu => ?_, kn.c hA⟩, fun u hu => ?_, kn, fun a ha => f1 a (by omega) (by omega) (by omega)⟩
  · exact (hc.2.2.2.2.2.2.1 u hu).fr (f2 _ (by omega) (by omega) (by omega)) (f1 _ (by omega) (by omega) (by omega)) (f1 _ (by omega) (by omega) (by omega)) (f1 _ (by omega) (by omega) (by omega))
  · exact (hk u hu).fr (f2 _ (by omega) (by omega) (by omega)) (f1 _ (by omega) (by omega) (by omega)) (f1 _ (by omega) (by omega) (by omega)) (f1 _ (by omega) (by omega) (by omega))
theorem tw_c {σ : Sg} {L : List Mx} {Q : List (List Mx)} {q : Nat} {I : Ims} {T : List Int32} {fa : Int32} {B : Bk} {sd : Int32} {s : Nat} (x : Int32) (hc : RC σ L Q q I T fa B sd) (hk : KA σ L L.length) (hs : s < L.length) : rX2_isTwin s x σ = alk (gq L s) (mad (gq L s)) ∧ RC (sX2_isTwin s x σ) L Q q I T fa B sd ∧ KA (sX2_isTwin s x σ) L L.length ∧ hiS σ (sX2_isTwin s x σ) := by
  have ok := hc.1.2.1
  have a0 : At (sX6_copyFrom 60 (65 + 7 * s + 1) σ) 60 (gq L s) := at_copy (hk s hs).1
  have a1 : At (sX6_turnBack 60 (sX6_copyFrom 60 (65 + 7 * s + 1) σ)) 60 (mad (gq L s)) := at_bk a0
  have r0 : RC (sX6_copyFrom 60 (65 + 7 * s + 1) σ) L Q q I T fa B sd := rc_tmp (by omega) hc
  have r1 : RC (sX6_turnBack 60 (sX6_copyFrom 60 (65 + 7 * s + 1) σ)) L Q q I T fa B sd := rc_tmp (by omega) r0
  have k1 : KA (sX6_turnBack 60 (sX6_copyFrom 60 (65 + 7 * s + 1) σ)) L L.length := fun u hu => KinOk.fr (σ := σ) ((set_2 (by omega)).trans (copy_2 (by omega))) rfl rfl rfl (hk u hu)
  have h0 : hiS σ (sX6_turnBack 60 (sX6_copyFrom 60 (65 + 7 * s + 1) σ)) := fun _ _ => rfl
  unfold rX2_isTwin sX2_isTwin
  generalize sX6_turnBack 60 (sX6_copyFrom 60 (65 + 7 * s + 1) σ) = ρ at *
  have okm := mad_ok (okL_at ok hs)
  obtain ⟨g1, g2, g3, g4⟩ := str_st r1 k1 a1 okm
  generalize sX3_lookAt 53 54 55 56 57 58 59 60 ρ = τ at *
  exact ⟨alk_class (okL_at ok hs) okm (g2 s hs) g3, g1, g2, fun a ha => (g4 a ha).trans (h0 a ha)⟩
theorem mi_c {σ : Sg} {L : List Mx} {Q : List (List Mx)} {q : Nat} {I : Ims} {T : List Int32} {fa : Int32} {B : Bk} {sd : Int32} {s : Nat} (x : Int32) (hc : RC σ L Q q I T fa B sd) (hk : KA σ L L.length) (hs : s < L.length) : rX2_isLikeMirrored s x σ = alk (gq L s) (mmr (gq L s)) ∧ RC (sX2_isLikeMirrored s x σ) L Q q I T fa B sd ∧ hiS σ (sX2_isLikeMirrored s x σ) := by
  have ok := hc.1.2.1
  have a0 : At (sX6_copyFrom 60 (65 + 7 * s + 1) σ) 60 (gq L s) := at_copy (hk s hs).1
  have a1 : At (sX6_mirror 60 (sX6_copyFrom 60 (65 + 7 * s + 1) σ)) 60 (mmr (gq L s)) := at_mi a0
  have r0 : RC (sX6_copyFrom 60 (65 + 7 * s + 1) σ) L Q q I T fa B sd := rc_tmp (by omega) hc
  have r1 : RC (sX6_mirror 60 (sX6_copyFrom 60 (65 + 7 * s + 1) σ)) L Q q I T fa B sd := rc_tmp (by omega) r0
  have k1 : KA (sX6_mirror 60 (sX6_copyFrom 60 (65 + 7 * s + 1) σ)) L L.length := fun u hu => KinOk.fr (σ := σ) ((set_2 (by omega)).trans (copy_2 (by omega))) rfl rfl rfl (hk u hu)
  have h0 : hiS σ (sX6_mirror 60 (sX6_copyFrom 60 (65 + 7 * s + 1) σ)) := fun _ _ => rfl
  unfold rX2_isLikeMirrored sX2_isLikeMirrored
  generalize sX6_mirror 60 (sX6_copyFrom 60 (65 + 7 * s + 1) σ) = ρ at *
  have okm := mmr_ok (okL_at ok hs)
  obtain ⟨g1, g2, g3, g4⟩ := str_st r1 k1 a1 okm
  generalize sX3_lookAt 53 54 55 56 57 58 59 60 ρ = τ at *
  exact ⟨alk_class (okL_at ok hs) okm (g2 s hs) g3, g1, fun a ha => (g4 a ha).trans (h0 a ha)⟩
def twA (L : List Mx) : Nat → Nat → Int32 → Int32
  | 0, _, a => a
  | m + 1, u, a => twA L m (u + 1) (if alk (gq L u) (mad (gq L u)) = true then a + 1 else a)
theorem ctw_c {L : List Mx} {Q : List (List Mx)} {q : Nat} {I : Ims} {T : List Int32} {fa : Int32} {B : Bk} {sd : Int32} : ∀ (m u : Nat) (a : Int32) (σ : Sg), u + m = L.length → RC σ L Q q I T fa B sd → KA σ L L.length → (ctwF m u a σ).1 = twA L m u a ∧ RC (ctwF m u a σ).2 L Q q I T fa B sd ∧ hiS σ (ctwF m u a σ).2
  | 0, _, _, σ, _, hc, _ => by rw [ctwF, twA]; exact ⟨rfl, hc, hi_rfl⟩
  | m + 1, u, a, σ, h, hc, hk => by
    rw [ctwF, twA]
    obtain ⟨g1, g2, g3, g4⟩ := tw_c (nI u) hc hk (show u < L.length by omega)
    rw [g1]
    obtain ⟨k1, k2, k3⟩ := ctw_c m (u + 1) (if alk (gq L u) (mad (gq L u)) = true then a + 1 else a) (sX2_isTwin u (nI u) σ) (by omega) g2 g3
    exact ⟨k1, k2, fun a ha => (k3 a ha).trans (g4 a ha)⟩
def fwA (L : List Mx) (B : Bk) : Nat → Nat → Int32
  | 0, _ => -1
  | m + 1, i => @ite _ (hsx (gb B i).1 L.length ∧ hsx (gb B i).2.1 L.length ∧ alk (gq L (gb B i).1.toNatClampNeg) (gq L (gb B i).2.1.toNatClampNeg) = (gb B i).2.2) (Classical.propDecidable _) (fwA L B m (i + 1)) (nI i)
theorem bI_e {p q : Bool} : bI p = bI q ↔ p = q := bI_inj
theorem fw_c {τ : Sg} {L : List Mx} {B : Bk} (sh : ShC τ 1 2 L) (hk : KA τ L L.length) (c5 : C5 τ B) : ∀ (m i : Nat), i + m = B.length → fwF τ B.length m i = fwA L B m i
  | 0, _, _ => rfl
  | m + 1, i, h => by
    obtain ⟨b1, b2, b3⟩ := id c5
    obtain ⟨d1, d2, d3⟩ := b3 i (by omega)
    have n0 : ¬ nI i < 0 := nI_pos (by omega)
    have nl : ¬ τ.1 47 3 ≤ nI i := by rw [b1]; exact nI_ge (by omega) (by omega)
    have e1 : rX0_one B.length (nI i) τ = (gb B i).1 := by
      unfold rX0_one; rw [if_neg n0, if_neg nl, nI_clamp (by omega)]; exact d1
    have e2 : rX0_other B.length (nI i) τ = (gb B i).2.1 := by
      unfold rX0_other; rw [if_neg n0, if_neg nl, nI_clamp (by omega)]; exact d2
    have e3 : rX0_saidAlike B.length (nI i) τ = (gb B i).2.2 := by
      unfold rX0_saidAlike; rw [if_neg n0, if_neg nl, nI_clamp (by omega), d3]
      cases (gb B i).2.2
      · rw [if_pos bI_f]
      · rw [if_neg (by decide)]
    rw [fwF, fwA, e1, e2, e3]
    have h1 := has_c sh (gb B i).1
    have h2 := has_c sh (gb B i).2.1
    by_cases c1 : hsx (gb B i).1 L.length
    · rw [if_pos (h1.mpr c1)]
      by_cases c2 : hsx (gb B i).2.1 L.length
      · rw [if_pos (h2.mpr c2), ca_al sh.2.1 hk (hsx_e c1).2 (hsx_e c2).2]
        by_cases c3 : alk (gq L (gb B i).1.toNatClampNeg) (gq L (gb B i).2.1.toNatClampNeg) = (gb B i).2.2
        · rw [if_pos (bI_e.mpr c3), if_pos ⟨c1, c2, c3⟩]
          exact fw_c sh hk c5 m (i + 1) (by omega)
        · rw [if_neg (fun z => c3 (bI_e.mp z)), if_neg (fun z => c3 z.2.2)]
      · rw [if_neg (fun z => c2 (h2.mp z)), if_neg (fun z => c2 z.2.1)]
    · rw [if_neg (fun z => c1 (h1.mp z)), if_neg (fun z => c1 z.1)]
/-- who goes with whom -/
def gtA (A B : Mx) : Bool := decide (mm A B = mm B A)
theorem mm_big {A B : Mx} (hA : bdM A) (hB : bdM B) : big (mm A B) := by
  have := mm_bd (bd_abs hA) (bd_abs hB)
  unfold big sm
  omega
theorem gt_c {σ : Sg} {L : List Mx} {Q : List (List Mx)} {q : Nat} {I : Ims} {T : List Int32} {fa : Int32} {B : Bk} {sd : Int32} {s u : Nat} (x1 x2 : Int32) (hc : RC σ L Q q I T fa B sd) (hk : KA σ L L.length) (hs : s < L.length) (hu : u < L.length) : rX2_goTogether s u x1 x2 σ = gtA (gq L s) (gq L u) ∧ RC (sX2_goTogether s u x1 x2 σ) L Q q I T fa B sd ∧ hiS σ (sX2_goTogether s u x1 x2 σ) := by
  have ok := hc.1.2.1
  have a1 : At σ (65 + 7 * s + 1) (gq L s) := (hk s hs).1
  have a2 : At σ (65 + 7 * u + 1) (gq L u) := (hk u hu).1
  unfold rX2_goTogether sX2_goTogether
  have r2 : RC (sX6_setProduct 61 (65 + 7 * s + 1) (65 + 7 * u + 1) σ) L Q q I T fa B sd := rc_tmp (by omega) hc
  have b1 : At (sX6_setProduct 61 (65 + 7 * s + 1) (65 + 7 * u + 1) σ) 61 (mm (gq L s) (gq L u)) := at_prod a1 a2
  have b3 : At (sX6_setProduct 61 (65 + 7 * s + 1) (65 + 7 * u + 1) σ) (65 + 7 * s + 1) (gq L s) := at_ne (by omega) a1
  have b4 : At (sX6_setProduct 61 (65 + 7 * s + 1) (65 + 7 * u + 1) σ) (65 + 7 * u + 1) (gq L u) := at_ne (by omega) a2
  have h0 : hiS σ (sX6_setProduct 61 (65 + 7 * s + 1) (65 + 7 * u + 1) σ) := fun _ _ => rfl
  generalize sX6_setProduct 61 (65 + 7 * s + 1) (65 + 7 * u + 1) σ = ρ at *
  have r3 : RC (sX6_setProduct 62 (65 + 7 * u + 1) (65 + 7 * s + 1) ρ) L Q q I T fa B sd := rc_tmp (by omega) r2
  have b2 : At (sX6_setProduct 62 (65 + 7 * u + 1) (65 + 7 * s + 1) ρ) 61 (mm (gq L s) (gq L u)) := at_ne (by decide) b1
  have b5 : At (sX6_setProduct 62 (65 + 7 * u + 1) (65 + 7 * s + 1) ρ) 62 (mm (gq L u) (gq L s)) := at_prod b4 b3
  have oA := okL_at ok hs
  have oB := okL_at ok hu
  refine ⟨bool_of ?_, r3, fun a ha => h0 a ha⟩
  rw [at_same b2 b5 (mm_big oA.2 oB.2) (mm_big oB.2 oA.2)]
  unfold gtA
  rw [decide_eq_true_iff]
/-- begins -/
theorem nn_c {σ : Sg} {i : Nat} {A : Mx} (h : At σ i A) (hA : bdM A) : rX6_hasNoneBelowZero i σ = true ↔ mnn A := by
  obtain ⟨h1, h2, h3, h4⟩ := h
  unfold bdM at hA
  unfold rX6_hasNoneBelowZero mnn
  rw [h1, h2, h3, h4]
  have e1 := lI_lt0 (x := A.1) (by unfold rg; omega)
  have e2 := lI_lt0 (x := A.2.1) (by unfold rg; omega)
  have e3 := lI_lt0 (x := A.2.2.1) (by unfold rg; omega)
  have e4 := lI_lt0 (x := A.2.2.2) (by unfold rg; omega)
  by_cases c1 : A.1 < 0
  · rw [if_pos (e1.mpr c1)]; exact ⟨fun z => absurd z (by decide), fun z => by omega⟩
  · rw [if_neg (fun z => c1 (e1.mp z))]
    by_cases c2 : A.2.1 < 0
    · rw [if_pos (e2.mpr c2)]; exact ⟨fun z => absurd z (by decide), fun z => by omega⟩
    · rw [if_neg (fun z => c2 (e2.mp z))]
      by_cases c3 : A.2.2.1 < 0
      · rw [if_pos (e3.mpr c3)]; exact ⟨fun z => absurd z (by decide), fun z => by omega⟩
      · rw [if_neg (fun z => c3 (e3.mp z))]
        by_cases c4 : A.2.2.2 < 0
        · rw [if_pos (e4.mpr c4)]; exact ⟨fun z => absurd z (by decide), fun z => by omega⟩
        · rw [if_neg (fun z => c4 (e4.mp z))]; exact ⟨fun _ => by omega, fun _ => rfl⟩
theorem bg_fr {io : Nat} : ∀ (m : Nat) (t : Int64) (σ : Sg), (bgF io m t σ).2.1 = σ.1 ∧ ∀ a, a ≠ 64 → (bgF io m t σ).2.2 a = σ.2 a
  | 0, _, _ => ⟨rfl, fun _ _ => rfl⟩
  | m + 1, t, σ => by
    rw [bgF]
    split
    · obtain ⟨g1, g2⟩ := bg_fr (io := io) m (t + rX9_turnFirstRun 63 64 σ) (sX9_turnFirstRun 63 64 σ)
      exact ⟨by rw [g1, turn_1], fun a ha => by rw [g2 a ha, turn_2 ha]⟩
    · exact ⟨rfl, fun _ _ => rfl⟩
theorem bg_c {σ : Sg} {L : List Mx} {Q : List (List Mx)} {q : Nat} {I : Ims} {T : List Int32} {fa : Int32} {B : Bk} {sd : Int32} {s u : Nat} (hc : RC σ L Q q I T fa B sd) (hk : KA σ L L.length) (hs : s < L.length) (hu : u < L.length) : (bgR s u σ).1 = bgA (gq L s) (gq L u) ∧ RC (bgR s u σ).2 L Q q I T fa B sd ∧ hiS σ (bgR s u σ).2 := by
  have ok := hc.1.2.1
  have oA := okL_at ok hs
  have oB := okL_at ok hu
  have a1 : At σ (65 + 7 * s + 1) (gq L s) := (hk s hs).1
  have a2 : At σ (65 + 7 * u + 1) (gq L u) := (hk u hu).1
  have ks : σ.1 (65 + 7 * s) 2 = knd (gq L s) := (hk s hs).2.1
  have ku : σ.1 (65 + 7 * u) 2 = knd (gq L u) := (hk u hu).2.1
  unfold bgR
  rw [ks, ku]
  have n1 := nn_c a1 oA.2
  have n2 := nn_c a2 oB.2
  have no : ∀ h : ¬ (knd (gq L s) = 3 ∧ knd (gq L u) = 3 ∧ mnn (gq L s) ∧ mnn (gq L u)), (-1 : Int32) = bgA (gq L s) (gq L u) := fun h => (bgA_no (fun z => h ⟨z.1, z.2.1, z.2.2.1, z.2.2.2.1⟩)).symm
  by_cases c1 : knd (gq L s) = 3
  · rw [if_pos c1]
    by_cases c2 : knd (gq L u) = 3
    · rw [if_pos c2]
      by_cases c3 : mnn (gq L s)
      · rw [if_pos (n1.mpr c3)]
        by_cases c4 : mnn (gq L u)
        · rw [if_pos (n2.mpr c4)]
          have b1 : At (sX9_copyFrom 63 64 (65 + 7 * s + 1) σ) 64 (gq L s) := at_copy a1
          have b2 : At (sX9_copyFrom 63 64 (65 + 7 * s + 1) σ) (65 + 7 * u + 1) (gq L u) := at_fr2 (copy_2 (by omega)) a2
          obtain ⟨f1, f2⟩ := bg_fr (io := 65 + 7 * u + 1) 41 0 (sX9_copyFrom 63 64 (65 + 7 * s + 1) σ)
          refine ⟨bg_class (by omega) oA oB c1 c2 c3 c4 b1 b2, RC.fr (σ := σ) (fun a _ => by rw [f1]; rfl) (fun a ha => ?_) hc, fun a ha => ?_⟩
          · rw [f2 a (by omega)]; exact copy_2 (by omega)
          · rw [f1]; rfl
        · rw [if_neg (fun z => c4 (n2.mp z))]; exact ⟨no (fun z => c4 z.2.2.2), hc, hi_rfl⟩
      · rw [if_neg (fun z => c3 (n1.mp z))]; exact ⟨no (fun z => c3 z.2.2.1), hc, hi_rfl⟩
    · rw [if_neg c2]; exact ⟨no (fun z => c2 z.2.1), hc, hi_rfl⟩
  · rw [if_neg c1]; exact ⟨no (fun z => c1 z.1), hc, hi_rfl⟩
end
