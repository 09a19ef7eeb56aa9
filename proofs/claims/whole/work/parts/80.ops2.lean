noncomputable section
theorem no2c {σ : Sg} {x1 x2 : Int32} {n : Nat} (h1 : rX5_has 1 2 x1 σ = true ↔ hsx x1 n) (h2 : rX5_has 1 2 x2 σ = true ↔ hsx x2 n) (hs : ¬ (hsx x1 n ∧ hsx x2 n)) {α : Type} (a b : α) : (if rX5_has 1 2 x1 σ = true then (if rX5_has 1 2 x2 σ = true then a else b) else b) = b := by
  by_cases c1 : rX5_has 1 2 x1 σ = true
  · rw [if_pos c1, if_neg (fun z => hs ⟨h1.mp c1, h2.mp z⟩)]
  · rw [if_neg c1]
theorem no2m {σ : Sg} {x1 x2 : Int32} {n : Nat} (h1 : rX11_isSquare x1 σ = true ↔ hsx x1 n) (h2 : rX11_isSquare x2 σ = true ↔ hsx x2 n) (hs : ¬ (hsx x1 n ∧ hsx x2 n)) {α : Type} (a b : α) : (if rX11_isSquare x1 σ = true then (if rX11_isSquare x2 σ = true then a else b) else b) = b := by
  by_cases c1 : rX11_isSquare x1 σ = true
  · rw [if_pos c1, if_neg (fun z => hs ⟨h1.mp c1, h2.mp z⟩)]
  · rw [if_neg c1]
/-- the squares at hand of the class -/
theorem two_c {σ : Sg} {L : List Mx} {Q : List (List Mx)} {q : Nat} {I : Ims} {T : List Int32} {fa : Int32} {B : Bk} {sd : Int32} (hc : RC σ L Q q I T fa B sd) {s u : Nat} (hs : s < L.length) (hu : u < L.length) : RC (ldS 2 151 u (ldS 2 150 s σ)) L Q q I T fa B sd ∧ At (ldS 2 151 u (ldS 2 150 s σ)) 150 (gq L s) ∧ At (ldS 2 151 u (ldS 2 150 s σ)) 151 (gq L u) ∧ hiS σ (ldS 2 151 u (ldS 2 150 s σ)) := by
  have r1 : RC (ldS 2 150 s σ) L Q q I T fa B sd := rc_tmp (by omega) hc
  have a1 := ld_at (i := 150) hc.1.2.2 hc.1.2.1 hs
  refine ⟨rc_tmp (by omega) r1, at_ne (by decide) a1, ld_at (i := 151) r1.1.2.2 r1.1.2.1 hu, fun _ _ => rfl⟩
theorem k_multiply {σ : Sg} (h : Rel σ) (x1 x2 : Int32) : StK σ yX10_multiply cX10_multiply 3 yX11_multiply cX11_multiply 3 [.int x1, .int x2] := by
  obtain ⟨⟨L, Q, I, T, fa, B, sd⟩, h1, h2⟩ := h
  obtain ⟨q, hc⟩ := h1.q
  have sh := hc.1
  have ok := sh.2.1
  have hq := hc.2.1
  have hh1 := has_c sh x1
  have hh2 := has_c sh x2
  have fu := full_c sh
  have evc := fun (l : Launch) (b : Nat) (cy : Nat → ClassId) (D : va_G) => ev_X10_multiply (l := l) (b := b) (cy := cy) (D := D) (d := 3) (x1 := x1) (x2 := x2) hq.2.1 hq.1 sh.1 ok.1
  have evm := fun (ρ : Sg) (hr' : RMs ρ (L, Q, I, T, fa, B, sd)) (l : Launch) (b : Nat) (cy : Nat → ClassId) (D : va_G) => ev_X11_multiply (l := l) (b := b) (cy := cy) (D := D) (d := 4) (x1 := x1) (x2 := x2) hr'.2.1.1 hr'.2.1.2.1 hr'.1.1 hr'.1.2.1
  by_cases hs : hsx x1 L.length ∧ hsx x2 L.length
  · obtain ⟨s1, s2⟩ := hs
    obtain ⟨_, e1⟩ := hsx_e s1
    obtain ⟨_, e2⟩ := hsx_e s2
    by_cases f : L.length = 12
    · refine StK.mk (F := (-1000000004, (L, Q, I, T, fa, B, sd))) h2 ?_ (fun ρ hr' => ?_)
      · refine StC.of evc ?_ ?_ ?_
        · unfold rX10_multiply; rw [if_pos (hh1.mpr s1), if_pos (hh2.mpr s2), if_pos (fu.mpr f)]
        · unfold sX10_multiply; rw [if_pos (hh1.mpr s1), if_pos (hh2.mpr s2), if_pos (fu.mpr f)]; exact h1
        · unfold sX10_multiply; rw [if_pos (hh1.mpr s1), if_pos (hh2.mpr s2), if_pos (fu.mpr f)]; exact hi_rfl
      · refine StM.of (evm ρ hr') ?_ ?_ ?_
        · unfold rX11_multiply; rw [if_pos ((has_m hr'.1 x1).mpr s1), if_pos ((has_m hr'.1 x2).mpr s2), if_pos ((full_m hr'.1).mpr f)]
        · unfold sX11_multiply; rw [if_pos ((has_m hr'.1 x1).mpr s1), if_pos ((has_m hr'.1 x2).mpr s2), if_pos ((full_m hr'.1).mpr f)]; exact hr'
        · unfold sX11_multiply; rw [if_pos ((has_m hr'.1 x1).mpr s1), if_pos ((has_m hr'.1 x2).mpr s2), if_pos ((full_m hr'.1).mpr f)]; exact lo_rfl
    · have hn : L.length < 12 := by have := ok.1; omega
      have okA := okL_at ok e1
      have okB := okL_at ok e2
      have hr := rg_mm okA.2 okB.2
      obtain ⟨t1, t2, t3, t4⟩ := two_c hc e1 e2
      have at0 : At (sX6_setProduct 152 150 151 (ldS 2 151 x2.toNatClampNeg (ldS 2 150 x1.toNatClampNeg σ))) 152 (mm (gq L x1.toNatClampNeg) (gq L x2.toNatClampNeg)) := at_prod t2 t3
      have rc0 : RC (sX6_setProduct 152 150 151 (ldS 2 151 x2.toNatClampNeg (ldS 2 150 x1.toNatClampNeg σ))) L Q q I T fa B sd := rc_tmp (by omega) t1
      have hi0 : hiS σ (sX6_setProduct 152 150 151 (ldS 2 151 x2.toNatClampNeg (ldS 2 150 x1.toNatClampNeg σ))) := fun _ _ => rfl
      have w0 := at_within at0 hr
      have mo' : ∀ ρ : Sg, RMs ρ (L, Q, I, T, fa, B, sd) → ∃ μ, (rX11_multiply Q.length L.length x1 x2 ρ = if rX11_isWell μ = true then rX11_puts Q.length L.length μ else -1000000003) ∧ (sX11_multiply Q.length L.length x1 x2 ρ = if rX11_isWell μ = true then sX11_puts Q.length L.length μ else μ) ∧ Am μ (mm (gq L x1.toNatClampNeg) (gq L x2.toNatClampNeg)) ∧ RMs μ (L, Q, I, T, fa, B, sd) ∧ loS ρ μ := by
        intro ρ hr'
        obtain ⟨g1, g2, g3, g4⟩ := now_lI (u := x2.toNatClampNeg) hr'.1.2.2 ok e2
        have am := am_tf (s := x1.toNatClampNeg) (x := x1) hr'.1.2.2 ok e1
        refine ⟨_, ?_, ?_, am_mul am g1 g2 g3 g4, RMs.tk (RMs.tk hr'), lo_trans lo_tk lo_tk⟩
        · unfold rX11_multiply; rw [if_pos ((has_m hr'.1 x1).mpr s1), if_pos ((has_m hr'.1 x2).mpr s2), if_neg (fun z => f ((full_m hr'.1).mp z))]; rfl
        · unfold sX11_multiply; rw [if_pos ((has_m hr'.1 x1).mpr s1), if_pos ((has_m hr'.1 x2).mpr s2), if_neg (fun z => f ((full_m hr'.1).mp z))]; rfl
      have ce1 : rX10_multiply q L.length x1 x2 σ = if rX6_isWithinBounds 152 (sX6_setProduct 152 150 151 (ldS 2 151 x2.toNatClampNeg (ldS 2 150 x1.toNatClampNeg σ))) = true then rX10_place 152 q L.length (sX6_setProduct 152 150 151 (ldS 2 151 x2.toNatClampNeg (ldS 2 150 x1.toNatClampNeg σ))) else -1000000003 := by
        unfold rX10_multiply; rw [if_pos (hh1.mpr s1), if_pos (hh2.mpr s2), if_neg (fun z => f (fu.mp z))]
      have ce2 : sX10_multiply q L.length x1 x2 σ = if rX6_isWithinBounds 152 (sX6_setProduct 152 150 151 (ldS 2 151 x2.toNatClampNeg (ldS 2 150 x1.toNatClampNeg σ))) = true then sX10_place 152 q L.length (sX6_setProduct 152 150 151 (ldS 2 151 x2.toNatClampNeg (ldS 2 150 x1.toNatClampNeg σ))) else sX6_setProduct 152 150 151 (ldS 2 151 x2.toNatClampNeg (ldS 2 150 x1.toNatClampNeg σ)) := by
        unfold sX10_multiply; rw [if_pos (hh1.mpr s1), if_pos (hh2.mpr s2), if_neg (fun z => f (fu.mp z))]
      generalize sX6_setProduct 152 150 151 (ldS 2 151 x2.toNatClampNeg (ldS 2 150 x1.toNatClampNeg σ)) = μ0 at *
      by_cases b0 : bdM (mm (gq L x1.toNatClampNeg) (gq L x2.toNatClampNeg))
      · have okC := mm_ok okA okB b0
        refine StK.mk (F := (nI L.length, (L ++ [mm (gq L x1.toNatClampNeg) (gq L x2.toNatClampNeg)], psh Q L, I, T, fa, B, sd))) h2 ?_ (fun ρ hr' => ?_)
        · obtain ⟨p1, p2, p3⟩ := rc_place rc0 hn at0 okC
          refine StC.of evc ?_ ?_ ?_
          · rw [ce1, if_pos (w0.mpr b0)]; rfl
          · rw [ce2, if_pos (w0.mpr b0)]; exact ⟨_, p1⟩
          · rw [ce2, if_pos (w0.mpr b0)]; exact fun a ha => (p2 a ha).trans (hi0 a ha)
        · obtain ⟨μ, m1, m2, m3, m4, m5⟩ := mo' ρ hr'
          obtain ⟨p1, p2, p3, p4⟩ := rm_puts m4 hn m3
          have wl := (am_well m3 hr).mpr b0
          refine StM.of (evm ρ hr') ?_ ?_ ?_
          · rw [m1, if_pos wl]; exact p1
          · rw [m2, if_pos wl]; exact p2
          · rw [m2, if_pos wl]; exact lo_trans m5 (fun a ha => ⟨p4 a ha, by rw [p3]⟩)
      · refine StK.mk (F := (-1000000003, (L, Q, I, T, fa, B, sd))) h2 ?_ (fun ρ hr' => ?_)
        · refine StC.of evc ?_ ?_ ?_
          · rw [ce1, if_neg (fun z => b0 (w0.mp z))]
          · rw [ce2, if_neg (fun z => b0 (w0.mp z))]; exact ⟨q, rc0⟩
          · rw [ce2, if_neg (fun z => b0 (w0.mp z))]; exact hi0
        · obtain ⟨μ, m1, m2, m3, m4, m5⟩ := mo' ρ hr'
          have wl : ¬ rX11_isWell μ = true := fun z => b0 ((am_well m3 hr).mp z)
          refine StM.of (evm ρ hr') ?_ ?_ ?_
          · rw [m1, if_neg wl]
          · rw [m2, if_neg wl]; exact m4
          · rw [m2, if_neg wl]; exact m5
  · refine StK.mk (F := (-1000000001, (L, Q, I, T, fa, B, sd))) h2 ?_ (fun ρ hr' => ?_)
    · have e1 : sX10_multiply q L.length x1 x2 σ = σ := no2c hh1 hh2 hs _ _
      refine StC.of evc (no2c hh1 hh2 hs _ _) (by rw [e1]; exact h1) (by rw [e1]; exact hi_rfl)
    · have e1 : sX11_multiply Q.length L.length x1 x2 ρ = ρ := no2m (has_m hr'.1 x1) (has_m hr'.1 x2) hs _ _
      refine StM.of (evm ρ hr') (no2m (has_m hr'.1 x1) (has_m hr'.1 x2) hs _ _) (by rw [e1]; exact hr') (by rw [e1]; exact lo_rfl)
/-- a square becomes another one, in both -/
theorem k_back {σ : Sg} (h : Rel σ) (x1 : Int32) : StK σ yX10_back cX10_back 2 yX11_back cX11_back 2 [.int x1] := by
  obtain ⟨⟨L, Q, I, T, fa, B, sd⟩, h1, h2⟩ := h
  obtain ⟨q, hc⟩ := h1.q
  have sh := hc.1
  have ok := sh.2.1
  have hq := hc.2.1
  have hh1 := has_c sh x1
  have evc := fun (l : Launch) (b : Nat) (cy : Nat → ClassId) (D : va_G) => ev_X10_back (l := l) (b := b) (cy := cy) (D := D) (d := 3) (x1 := x1) hq.2.1 hq.1 sh.1 ok.1
  have evm := fun (ρ : Sg) (hr' : RMs ρ (L, Q, I, T, fa, B, sd)) (l : Launch) (b : Nat) (cy : Nat → ClassId) (D : va_G) => ev_X11_back (l := l) (b := b) (cy := cy) (D := D) (d := 3) (x1 := x1) hr'.2.1.1 hr'.2.1.2.1 hr'.1.1 hr'.1.2.1
  by_cases s1 : hsx x1 L.length
  · obtain ⟨_, e1⟩ := hsx_e s1
    have okC := mad_ok (okL_at ok e1)
    refine StK.mk (F := (if gq L x1.toNatClampNeg = mad (gq L x1.toNatClampNeg) then 0 else 1, (L.set x1.toNatClampNeg (mad (gq L x1.toNatClampNeg)), psh Q L, I, T, fa, B, sd))) h2 ?_ (fun ρ hr' => ?_)
    · have a0 := ld_at (i := 152) sh.2.2 ok e1
      have at0 : At (sX6_turnBack 152 (ldS 2 152 x1.toNatClampNeg σ)) 152 (mad (gq L x1.toNatClampNeg)) := at_bk a0
      have r1 : RC (ldS 2 152 x1.toNatClampNeg σ) L Q q I T fa B sd := rc_tmp (by omega) hc
      have rc0 : RC (sX6_turnBack 152 (ldS 2 152 x1.toNatClampNeg σ)) L Q q I T fa B sd := rc_tmp (by omega) r1
      have hi0 : hiS σ (sX6_turnBack 152 (ldS 2 152 x1.toNatClampNeg σ)) := fun _ _ => rfl
      obtain ⟨p1, p2, p3⟩ := rc_exch (x := x1) rc0 e1 at0 okC
      refine StC.of evc ?_ ?_ ?_
      · unfold rX10_back; rw [if_pos (hh1.mpr s1)]; exact p1
      · unfold sX10_back; rw [if_pos (hh1.mpr s1)]; exact ⟨_, p2⟩
      · unfold sX10_back; rw [if_pos (hh1.mpr s1)]; exact fun a ha => (p3 a ha).trans (hi0 a ha)
    · have am := am_tf (s := x1.toNatClampNeg) (x := x1) hr'.1.2.2 ok e1
      have am2 := am_bk (τ := sX11_takesFrom x1.toNatClampNeg x1 ρ) am
      obtain ⟨p1, p2, p3⟩ := rm_bec (x := x1) (RMs.tk (RMs.tk hr')) ok e1 am2 okC.2
      refine StM.of (evm ρ hr') ?_ ?_ ?_
      · unfold rX11_back; rw [if_pos ((has_m hr'.1 x1).mpr s1)]; exact p1
      · unfold sX11_back; rw [if_pos ((has_m hr'.1 x1).mpr s1)]; exact p2
      · unfold sX11_back; rw [if_pos ((has_m hr'.1 x1).mpr s1)]; exact lo_trans (lo_trans lo_tk lo_tk) p3
  · refine StK.mk (F := (-1000000001, (L, Q, I, T, fa, B, sd))) h2 ?_ (fun ρ hr' => ?_)
    · have n1 : ¬ rX5_has 1 2 x1 σ = true := fun z => s1 (hh1.mp z)
      refine StC.of evc (if_neg n1) (by unfold sX10_back; rw [if_neg n1]; exact h1) (by unfold sX10_back; rw [if_neg n1]; exact hi_rfl)
    · have n1 : ¬ rX11_isSquare x1 ρ = true := fun z => s1 ((has_m hr'.1 x1).mp z)
      refine StM.of (evm ρ hr') (if_neg n1) (by unfold sX11_back; rw [if_neg n1]; exact hr') (by unfold sX11_back; rw [if_neg n1]; exact lo_rfl)
theorem mm_ok3 {A B : Mx} (hA : okM A) (hB : okM B) (h : bdM (mm (mm B A) (mad B))) : okM (mm (mm B A) (mad B)) := ⟨by rw [mdt_mm, mdt_mm, mdt_ad, hA.1, hB.1]; rfl, h⟩
theorem bec_no {σ : Sg} {A : Mx} {t s : Nat} {x : Int32} (ha : Am σ A) (hr : rgM A) (hA : ¬ bdM A) : rX11_becomes t s x σ = -1000000003 ∧ sX11_becomes t s x σ = σ := by
  have n : ¬ rX11_isWell σ = true := fun z => hA ((am_well ha hr).mp z)
  exact ⟨if_neg n, if_neg n⟩
theorem k_carry {σ : Sg} (h : Rel σ) (x1 x2 : Int32) : StK σ yX10_carry cX10_carry 3 yX11_carry cX11_carry 3 [.int x1, .int x2] := by
  obtain ⟨⟨L, Q, I, T, fa, B, sd⟩, h1, h2⟩ := h
  obtain ⟨q, hc⟩ := h1.q
  have sh := hc.1
  have ok := sh.2.1
  have hq := hc.2.1
  have hh1 := has_c sh x1
  have hh2 := has_c sh x2
  have evc := fun (l : Launch) (b : Nat) (cy : Nat → ClassId) (D : va_G) => ev_X10_carry (l := l) (b := b) (cy := cy) (D := D) (d := 3) (x1 := x1) (x2 := x2) hq.2.1 hq.1 sh.1 ok.1
  have evm := fun (ρ : Sg) (hr' : RMs ρ (L, Q, I, T, fa, B, sd)) (l : Launch) (b : Nat) (cy : Nat → ClassId) (D : va_G) => ev_X11_carry (l := l) (b := b) (cy := cy) (D := D) (d := 3) (x1 := x1) (x2 := x2) hr'.2.1.1 hr'.2.1.2.1 hr'.1.1 hr'.1.2.1
  by_cases hs : hsx x1 L.length ∧ hsx x2 L.length
  · obtain ⟨s1, s2⟩ := hs
    obtain ⟨_, e1⟩ := hsx_e s1
    obtain ⟨_, e2⟩ := hsx_e s2
    have okA := okL_at ok e1
    have okB := okL_at ok e2
    have hr := rg_carry okA.2 okB.2
    obtain ⟨t1, t2, t3, t4⟩ := two_c hc e1 e2
    have ce1 : rX10_carry q L.length x1 x2 σ = if rX6_isWithinBounds 152 (sX6_setProduct 152 152 151 (sX6_turnBack 151 (sX6_setProduct 152 151 150 (ldS 2 151 x2.toNatClampNeg (ldS 2 150 x1.toNatClampNeg σ))))) = true then rX10_exchange 152 x1.toNatClampNeg q L.length x1 (sX6_setProduct 152 152 151 (sX6_turnBack 151 (sX6_setProduct 152 151 150 (ldS 2 151 x2.toNatClampNeg (ldS 2 150 x1.toNatClampNeg σ))))) else -1000000003 := by
      unfold rX10_carry; rw [if_pos (hh1.mpr s1), if_pos (hh2.mpr s2)]
    have ce2 : sX10_carry q L.length x1 x2 σ = if rX6_isWithinBounds 152 (sX6_setProduct 152 152 151 (sX6_turnBack 151 (sX6_setProduct 152 151 150 (ldS 2 151 x2.toNatClampNeg (ldS 2 150 x1.toNatClampNeg σ))))) = true then sX10_exchange 152 x1.toNatClampNeg q L.length x1 (sX6_setProduct 152 152 151 (sX6_turnBack 151 (sX6_setProduct 152 151 150 (ldS 2 151 x2.toNatClampNeg (ldS 2 150 x1.toNatClampNeg σ))))) else sX6_setProduct 152 152 151 (sX6_turnBack 151 (sX6_setProduct 152 151 150 (ldS 2 151 x2.toNatClampNeg (ldS 2 150 x1.toNatClampNeg σ)))) := by
      unfold sX10_carry; rw [if_pos (hh1.mpr s1), if_pos (hh2.mpr s2)]
    have ga : At (sX6_setProduct 152 152 151 (sX6_turnBack 151 (sX6_setProduct 152 151 150 (ldS 2 151 x2.toNatClampNeg (ldS 2 150 x1.toNatClampNeg σ))))) 152 (mm (mm (gq L x2.toNatClampNeg) (gq L x1.toNatClampNeg)) (mad (gq L x2.toNatClampNeg))) := by
      generalize ldS 2 151 x2.toNatClampNeg (ldS 2 150 x1.toNatClampNeg σ) = μ at *
      have b1 : At (sX6_setProduct 152 151 150 μ) 152 (mm (gq L x2.toNatClampNeg) (gq L x1.toNatClampNeg)) := at_prod t3 t2
      have b2 : At (sX6_setProduct 152 151 150 μ) 151 (gq L x2.toNatClampNeg) := at_ne (by decide) t3
      exact at_prod (at_ne (by decide) b1) (at_bk b2)
    have rc0 : RC (sX6_setProduct 152 152 151 (sX6_turnBack 151 (sX6_setProduct 152 151 150 (ldS 2 151 x2.toNatClampNeg (ldS 2 150 x1.toNatClampNeg σ))))) L Q q I T fa B sd := by
      have r1 : RC (sX6_setProduct 152 151 150 (ldS 2 151 x2.toNatClampNeg (ldS 2 150 x1.toNatClampNeg σ))) L Q q I T fa B sd := rc_tmp (by omega) t1
      have r2 : RC (sX6_turnBack 151 (sX6_setProduct 152 151 150 (ldS 2 151 x2.toNatClampNeg (ldS 2 150 x1.toNatClampNeg σ)))) L Q q I T fa B sd := rc_tmp (by omega) r1
      exact rc_tmp (by omega) r2
    have hi0 : hiS σ (sX6_setProduct 152 152 151 (sX6_turnBack 151 (sX6_setProduct 152 151 150 (ldS 2 151 x2.toNatClampNeg (ldS 2 150 x1.toNatClampNeg σ))))) := fun _ _ => rfl
    have w0 := at_within ga hr
    have mo' : ∀ ρ : Sg, RMs ρ (L, Q, I, T, fa, B, sd) → ∃ μ, rX11_carry Q.length L.length x1 x2 ρ = rX11_becomes Q.length x1.toNatClampNeg x1 μ ∧ sX11_carry Q.length L.length x1 x2 ρ = sX11_becomes Q.length x1.toNatClampNeg x1 μ ∧ Am μ (mm (mm (gq L x2.toNatClampNeg) (gq L x1.toNatClampNeg)) (mad (gq L x2.toNatClampNeg))) ∧ RMs μ (L, Q, I, T, fa, B, sd) ∧ loS ρ μ := by
      intro ρ hr'
      obtain ⟨g1, g2, g3, g4⟩ := now_lI (u := x1.toNatClampNeg) hr'.1.2.2 ok e1
      obtain ⟨k1, k2, k3, k4⟩ := now_lI (u := x2.toNatClampNeg) hr'.1.2.2 ok e2
      have am := am_tf (s := x2.toNatClampNeg) (x := x2) hr'.1.2.2 ok e2
      have am2 := am_mul am g1 g2 g3 g4
      refine ⟨_, ?_, ?_, am_mul (x1 := (ρ.1 160 (4 + 4 * x2.toNatClampNeg)).toInt64) (x2 := 0 - (ρ.1 160 (2 + 4 * x2.toNatClampNeg)).toInt64) (x3 := 0 - (ρ.1 160 (3 + 4 * x2.toNatClampNeg)).toInt64) (x4 := (ρ.1 160 (1 + 4 * x2.toNatClampNeg)).toInt64) am2 k4 (by rw [k2, lI_0, lI_sub]; congr 1; simp only [mad]; omega) (by rw [k3, lI_0, lI_sub]; congr 1; simp only [mad]; omega) k1, RMs.tk (RMs.tk (RMs.tk hr')), lo_trans lo_tk (lo_trans lo_tk lo_tk)⟩
      · unfold rX11_carry; rw [if_pos ((has_m hr'.1 x1).mpr s1), if_pos ((has_m hr'.1 x2).mpr s2)]; rfl
      · unfold sX11_carry; rw [if_pos ((has_m hr'.1 x1).mpr s1), if_pos ((has_m hr'.1 x2).mpr s2)]; rfl
    generalize sX6_setProduct 152 152 151 (sX6_turnBack 151 (sX6_setProduct 152 151 150 (ldS 2 151 x2.toNatClampNeg (ldS 2 150 x1.toNatClampNeg σ)))) = μ0 at *
    by_cases b0 : bdM (mm (mm (gq L x2.toNatClampNeg) (gq L x1.toNatClampNeg)) (mad (gq L x2.toNatClampNeg)))
    · have okC := mm_ok3 okA okB b0
      generalize mm (mm (gq L x2.toNatClampNeg) (gq L x1.toNatClampNeg)) (mad (gq L x2.toNatClampNeg)) = C at *
      refine StK.mk (F := (if gq L x1.toNatClampNeg = C then 0 else 1, (L.set x1.toNatClampNeg C, psh Q L, I, T, fa, B, sd))) h2 ?_ (fun ρ hr' => ?_)
      · obtain ⟨p1, p2, p3⟩ := rc_exch (x := x1) rc0 e1 ga okC
        refine StC.of evc ?_ ?_ ?_
        · rw [ce1, if_pos (w0.mpr b0)]; exact p1
        · rw [ce2, if_pos (w0.mpr b0)]; exact ⟨_, p2⟩
        · rw [ce2, if_pos (w0.mpr b0)]; exact fun a ha => (p3 a ha).trans (hi0 a ha)
      · obtain ⟨μ, m1, m2, m3, m4, m5⟩ := mo' ρ hr'
        obtain ⟨p1, p2, p3⟩ := rm_bec (x := x1) m4 ok e1 m3 okC.2
        refine StM.of (evm ρ hr') ?_ ?_ ?_
        · rw [m1]; exact p1
        · rw [m2]; exact p2
        · rw [m2]; exact lo_trans m5 p3
    · refine StK.mk (F := (-1000000003, (L, Q, I, T, fa, B, sd))) h2 ?_ (fun ρ hr' => ?_)
      · refine StC.of evc ?_ ?_ ?_
        · rw [ce1, if_neg (fun z => b0 (w0.mp z))]
        · rw [ce2, if_neg (fun z => b0 (w0.mp z))]; exact ⟨q, rc0⟩
        · rw [ce2, if_neg (fun z => b0 (w0.mp z))]; exact hi0
      · obtain ⟨μ, m1, m2, m3, m4, m5⟩ := mo' ρ hr'
        obtain ⟨p1, p2⟩ := bec_no (t := Q.length) (s := x1.toNatClampNeg) (x := x1) m3 hr b0
        refine StM.of (evm ρ hr') ?_ ?_ ?_
        · rw [m1]; exact p1
        · rw [m2, p2]; exact m4
        · rw [m2, p2]; exact m5
  · refine StK.mk (F := (-1000000001, (L, Q, I, T, fa, B, sd))) h2 ?_ (fun ρ hr' => ?_)
    · have e1 : sX10_carry q L.length x1 x2 σ = σ := no2c hh1 hh2 hs _ _
      refine StC.of evc (no2c hh1 hh2 hs _ _) (by rw [e1]; exact h1) (by rw [e1]; exact hi_rfl)
    · have e1 : sX11_carry Q.length L.length x1 x2 ρ = ρ := no2m (has_m hr'.1 x1) (has_m hr'.1 x2) hs _ _
      refine StM.of (evm ρ hr') (no2m (has_m hr'.1 x1) (has_m hr'.1 x2) hs _ _) (by rw [e1]; exact hr') (by rw [e1]; exact lo_rfl)
/-! raise -/
def mpw (A : Mx) : Nat → Mx → Option Mx
  | 0, C => some C
  | m + 1, C => @ite _ (bdM (mm C A)) (Classical.propDecidable _) (mpw A m (mm C A)) none
theorem mpw_ok {A : Mx} (hA : okM A) : ∀ (m : Nat) (C D : Mx), okM C → mpw A m C = some D → okM D
  | 0, C, D, hC, h => by rw [mpw] at h; rw [← Option.some.inj h]; exact hC
  | m + 1, C, D, hC, h => by
    rw [mpw] at h
    by_cases c : bdM (mm C A)
    · rw [if_pos c] at h; exact mpw_ok hA m _ D (mm_ok hC hA c) h
    · rw [if_neg c] at h; cases h
theorem ra_c {L : List Mx} {Q : List (List Mx)} {q : Nat} {I : Ims} {T : List Int32} {fa : Int32} {B : Bk} {sd : Int32} {s : Nat} {x1 : Int32} {A : Mx} (hA : okM A) (hs : s < L.length) : ∀ (m : Nat) (σ : Sg) (C : Mx), okM C → RC σ L Q q I T fa B sd → At σ 152 C → At σ 150 A → (∀ D, mpw A m C = some D → (raF x1 s q L.length m σ).1 = (if gq L s = D then 0 else 1) ∧ RC (raF x1 s q L.length m σ).2 (L.set s D) (psh Q L) ((q + 1) % 20) I T fa B sd ∧ hiS σ (raF x1 s q L.length m σ).2) ∧ (mpw A m C = none → (raF x1 s q L.length m σ).1 = -1000000003 ∧ RC (raF x1 s q L.length m σ).2 L Q q I T fa B sd ∧ hiS σ (raF x1 s q L.length m σ).2)
  | 0, σ, C, hC, hc, a1, a2 => by
    rw [raF, mpw]
    refine ⟨fun D hD => ?_, fun z => by cases z⟩
    rw [← Option.some.inj hD]
    obtain ⟨p1, p2, p3⟩ := rc_exch (x := x1) hc hs a1 hC
    exact ⟨p1, p2, p3⟩
  | m + 1, σ, C, hC, hc, a1, a2 => by
    rw [raF, mpw]
    have at0 : At (sX6_setProduct 152 152 150 σ) 152 (mm C A) := at_prod a1 a2
    have at1 : At (sX6_setProduct 152 152 150 σ) 150 A := at_ne (by decide) a2
    have rc0 : RC (sX6_setProduct 152 152 150 σ) L Q q I T fa B sd := rc_tmp (by omega) hc
    have hi0 : hiS σ (sX6_setProduct 152 152 150 σ) := fun _ _ => rfl
    have w0 := at_within at0 (rg_mm hC.2 hA.2)
    generalize sX6_setProduct 152 152 150 σ = μ at *
    by_cases c : bdM (mm C A)
    · rw [if_pos (w0.mpr c), if_pos c]
      obtain ⟨k1, k2⟩ := ra_c (x1 := x1) hA hs m μ (mm C A) (mm_ok hC hA c) rc0 at0 at1
      refine ⟨fun D hD => ?_, fun z => ?_⟩
      · obtain ⟨p1, p2, p3⟩ := k1 D hD
        exact ⟨p1, p2, fun a ha => (p3 a ha).trans (hi0 a ha)⟩
      · obtain ⟨p1, p2, p3⟩ := k2 z
        exact ⟨p1, p2, fun a ha => (p3 a ha).trans (hi0 a ha)⟩
    · rw [if_neg (fun z => c (w0.mp z)), if_neg c]
      exact ⟨fun D hD => some_absurd hD, fun _ => ⟨rfl, rc0, hi0⟩⟩
theorem ra_m {S : Ab} {s : Nat} (ok : okL S.1) (hs : s < S.1.length) : ∀ (m : Nat) (σ : Sg) (C : Mx), okM C → RMs σ S → Am σ C → RMs (rsF s m σ) S ∧ loS σ (rsF s m σ) ∧ (∀ D, mpw (gq S.1 s) m C = some D → Am (rsF s m σ) D) ∧ (mpw (gq S.1 s) m C = none → ∃ D, Am (rsF s m σ) D ∧ rgM D ∧ ¬ bdM D)
  | 0, σ, C, hC, hm, a1 => by
    rw [rsF, mpw]
    exact ⟨hm, lo_rfl, fun D hD => by rw [← Option.some.inj hD]; exact a1, fun z => by cases z⟩
  | m + 1, σ, C, hC, hm, a1 => by
    have hA := okL_at ok hs
    rw [rsF, mpw, if_pos ((am_well a1 (rg_bdM hC.2)).mpr hC.2)]
    obtain ⟨g1, g2, g3, g4⟩ := now_lI (u := s) hm.1.2.2 ok hs
    have am : Am (rsS s σ) (mm C (gq S.1 s)) := am_mul a1 g1 g2 g3 g4
    have rm : RMs (rsS s σ) S := RMs.tk hm
    have lo : loS σ (rsS s σ) := lo_tk
    generalize rsS s σ = μ at *
    by_cases c : bdM (mm C (gq S.1 s))
    · rw [if_pos c]
      obtain ⟨k1, k2, k3, k4⟩ := ra_m ok hs m μ _ (mm_ok hC hA c) rm am
      exact ⟨k1, lo_trans lo k2, k3, k4⟩
    · rw [if_neg c]
      have hr := rg_mm hC.2 hA.2
      have e : rsF s m μ = μ := by
        cases m with
        | zero => rfl
        | succ m => rw [rsF, if_neg (fun z => c ((am_well am hr).mp z))]
      rw [e]
      exact ⟨rm, lo, fun D hD => some_absurd hD, fun _ => ⟨_, am, hr, c⟩⟩
theorem mo_ok : okM mo := ⟨rfl, by unfold bdM mo; simp⟩
theorem k_raise {σ : Sg} (h : Rel σ) (x1 x2 : Int32) : StK σ yX10_raise cX10_raise 4 yX11_raise cX11_raise 4 [.int x1, .int x2] := by
  obtain ⟨⟨L, Q, I, T, fa, B, sd⟩, h1, h2⟩ := h
  obtain ⟨q, hc⟩ := h1.q
  have sh := hc.1
  have ok := sh.2.1
  have hq := hc.2.1
  have hh1 := has_c sh x1
  have evc := fun (l : Launch) (b : Nat) (cy : Nat → ClassId) (D : va_G) => ev_X10_raise (l := l) (b := b) (cy := cy) (D := D) (d := 3) (x1 := x1) (x2 := x2) hq.2.1 hq.1 sh.1 ok.1
  have evm := fun (ρ : Sg) (hr' : RMs ρ (L, Q, I, T, fa, B, sd)) (l : Launch) (b : Nat) (cy : Nat → ClassId) (D : va_G) => ev_X11_raise (l := l) (b := b) (cy := cy) (D := D) (d := 3) (x1 := x1) (x2 := x2) hr'.2.1.1 hr'.2.1.2.1 hr'.1.1 hr'.1.2.1
  have y0 : x2 < 0 ↔ x2.toInt < 0 := Int32.lt_iff_toInt_lt
  have y4 : x2 ≤ 20 ↔ x2.toInt ≤ 20 := Int32.le_iff_toInt_le
  have i1 : ∀ ρ : Sg, rX11_in x2.toInt64 0 20 ρ = true ↔ 0 ≤ x2.toInt ∧ x2.toInt ≤ 20 := fun ρ => in_i
  by_cases s1 : hsx x1 L.length
  · obtain ⟨_, e1⟩ := hsx_e s1
    have okA := okL_at ok e1
    by_cases hx : 0 ≤ x2.toInt ∧ x2.toInt ≤ 20
    · have n0 : ¬ x2 < 0 := fun z => by have := y0.mp z; omega
      have ce : raR q L.length x1 x2 σ = raF x1 x1.toNatClampNeg q L.length x2.toNatClampNeg (ra0 x1.toNatClampNeg σ) := by
        unfold raR; rw [if_pos (hh1.mpr s1), if_neg n0, if_pos (y4.mpr hx.2)]
      have a0 := ld_at (i := 150) sh.2.2 ok e1
      have at1 : At (ra0 x1.toNatClampNeg σ) 152 mo := at_sq rfl rfl rfl rfl
      have at2 : At (ra0 x1.toNatClampNeg σ) 150 (gq L x1.toNatClampNeg) := at_ne (by decide) a0
      have r1 : RC (ldS 2 150 x1.toNatClampNeg σ) L Q q I T fa B sd := rc_tmp (by omega) hc
      have rc0 : RC (ra0 x1.toNatClampNeg σ) L Q q I T fa B sd := rc_tmp (by omega) r1
      have hi0 : hiS σ (ra0 x1.toNatClampNeg σ) := fun _ _ => rfl
      obtain ⟨c1, c2⟩ := ra_c (x1 := x1) okA e1 x2.toNatClampNeg (ra0 x1.toNatClampNeg σ) mo mo_ok rc0 at1 at2
      have mo' : ∀ ρ : Sg, RMs ρ (L, Q, I, T, fa, B, sd) → rX11_raise Q.length x1 x2 ρ = rX11_becomes Q.length x1.toNatClampNeg x1 (rsF x1.toNatClampNeg x2.toNatClampNeg (raS ρ)) ∧ sX11_raise Q.length x1 x2 ρ = sX11_becomes Q.length x1.toNatClampNeg x1 (rsF x1.toNatClampNeg x2.toNatClampNeg (raS ρ)) := by
        intro ρ hr'
        unfold rX11_raise sX11_raise
        rw [if_pos ((has_m hr'.1 x1).mpr s1), if_pos ((i1 ρ).mpr hx), if_pos ((has_m hr'.1 x1).mpr s1), if_pos ((i1 ρ).mpr hx)]
        exact ⟨rfl, rfl⟩
      cases hD : mpw (gq L x1.toNatClampNeg) x2.toNatClampNeg mo with
      | some D =>
        have okD := mpw_ok okA _ _ _ mo_ok hD
        refine StK.mk (F := (if gq L x1.toNatClampNeg = D then 0 else 1, (L.set x1.toNatClampNeg D, psh Q L, I, T, fa, B, sd))) h2 ?_ (fun ρ hr' => ?_)
        · obtain ⟨p1, p2, p3⟩ := c1 D hD
          refine StC.of evc ?_ ?_ ?_
          · rw [ce]; exact p1
          · rw [ce]; exact ⟨_, p2⟩
          · rw [ce]; exact fun a ha => (p3 a ha).trans (hi0 a ha)
        · obtain ⟨m1, m2⟩ := mo' ρ hr'
          obtain ⟨k1, k2, k3, k4⟩ := ra_m (S := (L, Q, I, T, fa, B, sd)) ok e1 x2.toNatClampNeg (raS ρ) mo mo_ok (RMs.tk hr') (am_tk rfl rfl rfl rfl)
          obtain ⟨p1, p2, p3⟩ := rm_bec (x := x1) k1 ok e1 (k3 D hD) okD.2
          refine StM.of (evm ρ hr') ?_ ?_ ?_
          · rw [m1]; exact p1
          · rw [m2]; exact p2
          · rw [m2]; exact lo_trans (lo_trans lo_tk k2) p3
      | none =>
        refine StK.mk (F := (-1000000003, (L, Q, I, T, fa, B, sd))) h2 ?_ (fun ρ hr' => ?_)
        · obtain ⟨p1, p2, p3⟩ := c2 hD
          refine StC.of evc ?_ ?_ ?_
          · rw [ce]; exact p1
          · rw [ce]; exact ⟨_, p2⟩
          · rw [ce]; exact fun a ha => (p3 a ha).trans (hi0 a ha)
        · obtain ⟨m1, m2⟩ := mo' ρ hr'
          obtain ⟨k1, k2, k3, k4⟩ := ra_m (S := (L, Q, I, T, fa, B, sd)) ok e1 x2.toNatClampNeg (raS ρ) mo mo_ok (RMs.tk hr') (am_tk rfl rfl rfl rfl)
          obtain ⟨D, d1, d2, d3⟩ := k4 hD
          obtain ⟨p1, p2⟩ := bec_no (t := Q.length) (s := x1.toNatClampNeg) (x := x1) d1 d2 d3
          refine StM.of (evm ρ hr') ?_ ?_ ?_
          · rw [m1]; exact p1
          · rw [m2, p2]; exact k1
          · rw [m2, p2]; exact lo_trans lo_tk k2
    · refine StK.mk (F := (-1000000002, (L, Q, I, T, fa, B, sd))) h2 ?_ (fun ρ hr' => ?_)
      · have ce : raR q L.length x1 x2 σ = (-1000000002, σ) := by
          unfold raR
          rw [if_pos (hh1.mpr s1)]
          by_cases c : x2 < 0
          · rw [if_pos c]
          · rw [if_neg c, if_neg (fun z => hx ⟨by have := mt y0.mpr c; omega, y4.mp z⟩)]
        refine StC.of evc (by rw [ce]) (by rw [ce]; exact h1) (by rw [ce]; exact hi_rfl)
      · have n1 := mt (i1 ρ).mp hx
        have k1 : rX11_raise Q.length x1 x2 ρ = -1000000002 := by unfold rX11_raise; rw [if_pos ((has_m hr'.1 x1).mpr s1), if_neg n1]
        have k2 : sX11_raise Q.length x1 x2 ρ = ρ := by unfold sX11_raise; rw [if_pos ((has_m hr'.1 x1).mpr s1), if_neg n1]
        refine StM.of (evm ρ hr') k1 (by rw [k2]; exact hr') (by rw [k2]; exact lo_rfl)
  · refine StK.mk (F := (-1000000001, (L, Q, I, T, fa, B, sd))) h2 ?_ (fun ρ hr' => ?_)
    · have n1 : ¬ rX5_has 1 2 x1 σ = true := fun z => s1 (hh1.mp z)
      have ce : raR q L.length x1 x2 σ = (-1000000001, σ) := if_neg n1
      refine StC.of evc (by rw [ce]) (by rw [ce]; exact h1) (by rw [ce]; exact hi_rfl)
    · have n1 : ¬ rX11_isSquare x1 ρ = true := fun z => s1 ((has_m hr'.1 x1).mp z)
      refine StM.of (evm ρ hr') (if_neg n1) (by unfold sX11_raise; rw [if_neg n1]; exact hr') (by unfold sX11_raise; rw [if_neg n1]; exact lo_rfl)
end
