noncomputable section
theorem RM.past {σ τ : Sg} {L L' : List Mx} {Q Q' : List (List Mx)} {I : Ims} {T : List Int32} {fa : Int32} {B : Bk} {sd : Int32} (e : ∀ a, a ≠ 159 → a ≠ 160 → a ≠ 161 → 159 ≤ a → τ.1 a = σ.1 a) (e2 : ∀ j, j ≠ 2 → τ.1 159 j = σ.1 159 j) (hL : M1 τ L') (hQ : M2 τ Q') (h : RM σ L Q I T fa B sd) : RM τ L' Q' I T fa B sd := by
  obtain ⟨h1, h2, h3, h4, h5, h6⟩ := h
  exact ⟨hL, hQ, h3.fr (e _ (by omega) (by omega) (by omega) (by omega)) (e _ (by omega) (by omega) (by omega) (by omega)), h4.fr (e2 _ (by omega)) (e2 _ (by omega)) (e _ (by omega) (by omega) (by omega) (by omega)), h5.fr (e2 _ (by omega)) (e _ (by omega) (by omega) (by omega) (by omega)), by rw [e2 _ (by omega)]; exact h6⟩
theorem k_take {σ : Sg} (h : Rel σ) (x1 : Int32) : StK σ yX10_take cX10_take 2 yX11_take cX11_take 3 [.int x1] := by
  obtain ⟨⟨L, Q, I, T, fa, B, sd⟩, h1, h2⟩ := h
  obtain ⟨q, hc⟩ := h1.q
  have sh := hc.1
  have ok := sh.2.1
  have hq := hc.2.1
  have hh1 := has_c sh x1
  have evc := fun (l : Launch) (b : Nat) (cy : Nat → ClassId) (D : va_G) => ev_X10_take (l := l) (b := b) (cy := cy) (D := D) (d := 4) (x1 := x1) hq.2.1 hq.1 sh.1 ok.1
  have evm := fun (ρ : Sg) (hr' : RMs ρ (L, Q, I, T, fa, B, sd)) (l : Launch) (b : Nat) (cy : Nat → ClassId) (D : va_G) => ev_X11_take (l := l) (b := b) (cy := cy) (D := D) (d := 5) (x1 := x1) hr'.2.1.1 hr'.2.1.2.1 hr'.1.1 hr'.1.2.1
  by_cases s1 : hsx x1 L.length
  · obtain ⟨_, e1⟩ := hsx_e s1
    have lE : (L.eraseIdx x1.toNatClampNeg).length = L.length - 1 := by rw [List.length_eraseIdx, if_pos e1]
    refine StK.mk (F := (nI (L.length - 1), (L.eraseIdx x1.toNatClampNeg, psh Q L, I, T, fa, B, sd))) h2 ?_ (fun ρ hr' => ?_)
    · obtain ⟨r1, r2⟩ := rc_rem hc
      have r3 : ∀ a, 159 ≤ a → (sX4_remember 1 2 q L.length σ).1 a = σ.1 a := fun a ha => rem_160 hq.1 ha
      have ce1 : rX10_take q L.length x1 σ = rX5_size 1 2 (rmS 1 2 x1.toNatClampNeg L.length (sX4_remember 1 2 q L.length σ)) := if_pos (hh1.mpr s1)
      have ce2 : sX10_take q L.length x1 σ = rmS 1 2 x1.toNatClampNeg L.length (sX4_remember 1 2 q L.length σ) := if_pos (hh1.mpr s1)
      generalize sX4_remember 1 2 q L.length σ = μ at *
      have sr := sh_rm (k := 1) (c := 2) (by decide) r1.1 e1
      refine StC.of evc ?_ ?_ ?_
      · rw [ce1]; unfold rX5_size; rw [sr.1, lE]
      · rw [ce2]; exact ⟨_, r1.shelf (fun a _ h1 h2 => rm_1 h1 h2) rfl sr⟩
      · rw [ce2]; exact fun a ha => (rm_1 (by omega) (by omega)).trans (r3 a ha)
    · obtain ⟨n1, n2, n3⟩ := rm_no hr'
      have ce1 : rX11_take Q.length x1 ρ = (tkS Q.length x1 ρ).1 160 0 := if_pos ((has_m hr'.1 x1).mpr s1)
      have ce2 : sX11_take Q.length x1 ρ = tkS Q.length x1 ρ := if_pos ((has_m hr'.1 x1).mpr s1)
      unfold tkS at ce1 ce2
      rw [tk_G] at ce1 ce2
      dsimp only at n1 n2 n3
      generalize sNo Q.length ρ = μ at *
      obtain ⟨g1, g2, g3⟩ := cpG_at (a := 160) (b := 160) (o := 0) (p := 4) (Or.inr (by omega)) (44 - 4 * x1.toNatClampNeg) (1 + 4 * x1.toNatClampNeg) μ
      generalize cpG 160 160 0 4 (44 - 4 * x1.toNatClampNeg) (1 + 4 * x1.toNatClampNeg) μ = ν at *
      have hm := n1.1
      have hl := ok.1
      have z0 : ν.1 160 0 = nI L.length := by rw [g1, if_neg (by omega)]; exact hm.1
      have z1 : (tkE ν).1 160 0 = nI (L.length - 1) := by
        unfold tkE; dsimp only; rw [u2_eq, z0, show (1 : Int32) = nI 1 from rfl, pk_sub (by omega)]
      refine StM.of (evm ρ hr') ?_ ?_ ?_
      · rw [ce1]; exact z1
      · rw [ce2]
        refine n1.shelf (fun a ha => ?_) ⟨by rw [z1, lE], by rw [lE]; omega, ?_⟩
        · unfold tkE; dsimp only; rw [u2k ha, g2 a ha]
        · apply rep_del e1 hm.2.2
          · intro i hi
            unfold tkE; dsimp only
            rw [u2_j (by omega), g1, if_neg (by omega)]
          · intro i hi hi2
            unfold tkE; dsimp only
            rw [u2_j (by omega), g1, if_pos (by omega), show 4 + (1 + i - 0) = 1 + (i + 4) by omega]
      · rw [ce2]
        intro a ha
        unfold tkE; dsimp only
        exact ⟨by rw [u2k (by omega), g2 a (by omega), n3 a ha], by rw [g3, n2]⟩
  · refine StK.mk (F := (-1000000001, (L, Q, I, T, fa, B, sd))) h2 ?_ (fun ρ hr' => ?_)
    · have n1 : ¬ rX5_has 1 2 x1 σ = true := fun z => s1 (hh1.mp z)
      refine StC.of evc (if_neg n1) (by unfold sX10_take; rw [if_neg n1]; exact h1) (by unfold sX10_take; rw [if_neg n1]; exact hi_rfl)
    · have n1 : ¬ rX11_isSquare x1 ρ = true := fun z => s1 ((has_m hr'.1 x1).mp z)
      refine StM.of (evm ρ hr') (if_neg n1) (by unfold sX11_take; rw [if_neg n1]; exact hr') (by unfold sX11_take; rw [if_neg n1]; exact lo_rfl)
theorem gl_take {Q : List (List Mx)} {m e : Nat} (h : e < m) : gl (Q.take m) e = gl Q e := by
  unfold gl
  rw [List.getD_eq_getElem?_getD, List.getD_eq_getElem?_getD, List.getElem?_take_of_lt h]
theorem k_undo {σ : Sg} (h : Rel σ) (x1 : Int32) : StK σ yX10_undo cX10_undo 2 yX11_undo cX11_undo 3 [.int x1] := by
  obtain ⟨⟨L, Q, I, T, fa, B, sd⟩, h1, h2⟩ := h
  obtain ⟨q, hc⟩ := h1.q
  obtain ⟨c1, c2, c3, c4, c5, c6, c7⟩ := id hc
  obtain ⟨q1, q2, q3, q4, q5, q6⟩ := id c2
  have evc := fun (l : Launch) (b : Nat) (cy : Nat → ClassId) (D : va_G) => ev_X10_undo (l := l) (b := b) (cy := cy) (D := D) (d := 4) (x1 := x1) q2 q1 q5
  have evm := fun (ρ : Sg) (hr' : RMs ρ (L, Q, I, T, fa, B, sd)) (l : Launch) (b : Nat) (cy : Nat → ClassId) (D : va_G) => ev_X11_undo (l := l) (b := b) (cy := cy) (D := D) (d := 6) (x1 := x1) hr'.2.1.1 hr'.2.1.2.1
  have y0 : x1 < 1 ↔ x1.toInt < 1 := Int32.lt_iff_toInt_lt
  have y4 : x1 ≤ 20 ↔ x1.toInt ≤ 20 := Int32.le_iff_toInt_le
  have yl : x1 ≤ rX4_length σ ↔ x1.toInt ≤ Q.length := by
    unfold rX4_length; rw [q3, Int32.le_iff_toInt_le, nI_int (by omega)]
  have i1 : ∀ ρ : Sg, rX11_in x1.toInt64 1 20 ρ = true ↔ 1 ≤ x1.toInt ∧ x1.toInt ≤ 20 := fun ρ => in_i
  have ym : ∀ ρ : Sg, RMs ρ (L, Q, I, T, fa, B, sd) → (x1 ≤ ρ.1 159 2 ↔ x1.toInt ≤ Q.length) := fun ρ hr' => by
    have : ρ.1 159 2 = nI Q.length := hr'.2.1.1
    rw [this, Int32.le_iff_toInt_le, nI_int (by omega)]
  by_cases hx : 1 ≤ x1.toInt ∧ x1.toInt ≤ 20
  · have n0 : ¬ x1 < 1 := fun z => by have := y0.mp z; omega
    by_cases hl : x1.toInt ≤ Q.length
    · have h0 : ¬ x1 < 0 := by rw [Int32.lt_iff_toInt_lt, show (0 : Int32).toInt = 0 from rfl]; omega
      have ex := nI_self h0
      have dd1 : 1 ≤ x1.toNatClampNeg ∧ x1.toNatClampNeg ≤ Q.length := by rw [Int32.toNatClampNeg]; omega
      generalize hdd : x1.toNatClampNeg = dd at *
      have ee : Q.length - dd < Q.length := by omega
      have sl := q6 (Q.length - dd) ee
      rw [show q + 20 - Q.length + (Q.length - dd) = q + 20 - dd by omega] at sl
      have okg := sl.2.1
      have lT : (Q.take (Q.length - dd)).length = Q.length - dd := by rw [List.length_take]; omega
      refine StK.mk (F := (nI (gl Q (Q.length - dd)).length, (gl Q (Q.length - dd), Q.take (Q.length - dd), I, T, fa, B, sd))) h2 ?_ (fun ρ hr' => ?_)
      · have szl : sz σ (5 + 2 * ((q + 20 - dd) % 20)) = (gl Q (Q.length - dd)).length := by
          have := okg.1
          unfold sz; rw [sl.1, nI_clamp (by omega)]
        have ce1 : rX10_undo q x1 σ = rX5_size 1 2 (sX4_restore 1 2 q dd (gl Q (Q.length - dd)).length x1 σ) := by
          unfold rX10_undo; rw [if_neg n0, if_pos (y4.mpr hx.2), if_pos (yl.mpr hl), hdd, szl]
        have ce2 : sX10_undo q x1 σ = sX4_restore 1 2 q dd (gl Q (Q.length - dd)).length x1 σ := by
          unfold sX10_undo; rw [if_neg n0, if_pos (y4.mpr hx.2), if_pos (yl.mpr hl), hdd, szl]
        have fm : rJ9_floorMod_7cf53 ((σ.1 3 1) - x1) 20 σ = nI ((q + 20 - dd) % 20) := by
          rw [q2, ex]; exact fm20 q1 (by omega)
        have em : sX4_restore 1 2 q dd (gl Q (Q.length - dd)).length x1 σ = cfS 1 2 (5 + 2 * ((q + 20 - dd) % 20)) (5 + 2 * ((q + 20 - dd) % 20) + 1) (gl Q (Q.length - dd)).length (u2 (u2 σ.1 3 1 (nI ((q + 20 - dd) % 20))) 3 2 (nI (Q.length - dd)), σ.2) := by
          unfold sX4_restore
          rw [fm, u2_j (by decide), q3, ex, pk_sub (by omega)]
        rw [em] at ce1 ce2
        generalize hμ : ((u2 (u2 σ.1 3 1 (nI ((q + 20 - dd) % 20))) 3 2 (nI (Q.length - dd)), σ.2) : Sg) = μ at *
        have f1 : ∀ a, a ≠ 3 → μ.1 a = σ.1 a := fun a ha => by rw [← hμ]; dsimp only; rw [u2k ha, u2k ha]
        have mlt := Nat.mod_lt (q + 20 - dd) (show 0 < 20 by omega)
        have sl' : ShC μ (5 + 2 * ((q + 20 - dd) % 20)) (5 + 2 * ((q + 20 - dd) % 20) + 1) (gl Q (Q.length - dd)) := sl.fr (f1 _ (by omega)) (f1 _ (by omega))
        have sc := sh_cf (k := 1) (c := 2) (by omega) (by decide) sl'
        have f2 : ∀ a, a ≠ 1 → a ≠ 2 → (cfS 1 2 (5 + 2 * ((q + 20 - dd) % 20)) (5 + 2 * ((q + 20 - dd) % 20) + 1) (gl Q (Q.length - dd)).length μ).1 a = μ.1 a := fun a h1 h2 => cf_1 h1 h2
        have f3 : (cfS 1 2 (5 + 2 * ((q + 20 - dd) % 20)) (5 + 2 * ((q + 20 - dd) % 20) + 1) (gl Q (Q.length - dd)).length μ).2 = σ.2 := by rw [← hμ]; rfl
        generalize cfS 1 2 (5 + 2 * ((q + 20 - dd) % 20)) (5 + 2 * ((q + 20 - dd) % 20) + 1) (gl Q (Q.length - dd)).length μ = ν at *
        have f4 : ∀ a, a ≠ 1 → a ≠ 2 → a ≠ 3 → ν.1 a = σ.1 a := fun a h1 h2 h3 => (f2 a h1 h2).trans (f1 a h3)
        refine StC.of evc ?_ ?_ ?_
        · rw [ce1]; exact sc.1
        · rw [ce2]
          refine ⟨(q + 20 - dd) % 20, sc, ⟨mlt, ?_, ?_, ?_, fun j hj => (q5 j hj).fr (f4 _ (by omega) (by omega) (by omega)), fun e he => ?_⟩, c3.fr (fun a _ _ => f4 a (by omega) (by omega) (by omega)), c4.fr (fun a _ _ => f4 a (by omega) (by omega) (by omega)), c5.fr (fun a _ _ => f4 a (by omega) (by omega) (by omega)), c6.fr (f4 _ (by omega) (by omega) (by omega)), c7.fr (fun a ha => ⟨f4 a (by omega) (by omega) (by omega), by rw [f3]⟩)⟩
          · rw [f2 3 (by decide) (by decide), ← hμ]; dsimp only; rw [u2_j (by decide), u2_eq]
          · rw [f2 3 (by decide) (by decide), ← hμ]; dsimp only; rw [u2_eq, lT]
          · dsimp only; rw [lT]; omega
          · dsimp only at he ⊢
            rw [lT] at he ⊢
            rw [gl_take he]
            have := q6 e (by omega)
            have em2 : ((q + 20 - dd) % 20 + 20 - (Q.length - dd) + e) % 20 = (q + 20 - Q.length + e) % 20 := by omega
            rw [em2]
            have ml2 := Nat.mod_lt (q + 20 - Q.length + e) (show 0 < 20 by omega)
            exact this.fr (f4 _ (by omega) (by omega) (by omega)) (f4 _ (by omega) (by omega) (by omega))
        · rw [ce2]; exact fun a ha => f4 a (by omega) (by omega) (by omega)
      · obtain ⟨m1, m2, m3, m4, m5, m6⟩ := id hr'
        obtain ⟨b1, b2, b3⟩ := id m2
        dsimp only at b1 b2 b3
        have ce1 : rX11_undo Q.length x1 ρ = (unS Q.length x1 ρ).1 160 0 := by
          unfold rX11_undo; rw [if_pos ((i1 ρ).mpr hx), if_pos ((ym ρ hr').mpr hl)]
        have ce2 : sX11_undo Q.length x1 ρ = unS Q.length x1 ρ := by
          unfold sX11_undo; rw [if_pos ((i1 ρ).mpr hx), if_pos ((ym ρ hr').mpr hl)]
        unfold unS at ce1 ce2
        rw [un_G, hdd] at ce1 ce2
        have u0 : un0 x1 ρ = (u2 ρ.1 159 2 (nI (Q.length - dd)), ρ.2) := by
          unfold un0; rw [b1, ex, pk_sub (by omega)]
        rw [u0] at ce1 ce2
        generalize hμ : ((u2 ρ.1 159 2 (nI (Q.length - dd)), ρ.2) : Sg) = μ at *
        have f1 : ∀ a, a ≠ 159 → μ.1 a = ρ.1 a := fun a ha => by rw [← hμ]; dsimp only; rw [u2k ha]
        have f2 : ∀ j, j ≠ 2 → μ.1 159 j = ρ.1 159 j := fun a ha => by rw [← hμ]; dsimp only; rw [u2_j ha]
        have f3 : μ.1 159 2 = nI (Q.length - dd) := by rw [← hμ]; dsimp only; rw [u2_eq]
        have f4 : μ.2 = ρ.2 := by rw [← hμ]
        obtain ⟨g1, g2, g3⟩ := cpG_at (a := 160) (b := 161) (o := 0) (p := 49 * (Q.length - dd)) (Or.inl (by decide)) 49 0 μ
        generalize cpG 160 161 0 (49 * (Q.length - dd)) 49 0 μ = ν at *
        obtain ⟨r1, r2, r3⟩ := b3 (Q.length - dd) ee
        have z0 : ν.1 160 0 = nI (gl Q (Q.length - dd)).length := by
          rw [g1, if_pos (by omega), f1 161 (by decide), show 49 * (Q.length - dd) + (0 - 0) = 49 * (Q.length - dd) by omega]; exact r1
        refine StM.of (evm ρ hr') ?_ ?_ ?_
        · rw [ce1]; exact z0
        · rw [ce2]
          refine RM.past (fun a h160 h161 h162 _ => ?_) (fun j hj => ?_) ⟨z0, r2, ?_⟩ ⟨?_, ?_, fun e he => ?_⟩ hr'
          · rw [g2 a h161, f1 a h160]
          · rw [g2 159 (by decide), f2 j hj]
          · apply rep_cp r3
            intro i hi
            rw [g1, if_pos (by omega), f1 161 (by decide), show 49 * (Q.length - dd) + (1 + i - 0) = 49 * (Q.length - dd) + 1 + i by omega]
          · rw [g2 159 (by decide), f3, lT]
          · dsimp only; rw [lT]; omega
          · dsimp only at he ⊢
            rw [lT] at he
            rw [gl_take he, g2 161 (by decide), f1 161 (by decide)]
            exact b3 e (by omega)
        · rw [ce2]; exact fun a ha => ⟨by rw [g2 a (by omega), f1 a (by omega)], by rw [g3, f4]⟩
    · refine StK.mk (F := (-1000000003, (L, Q, I, T, fa, B, sd))) h2 ?_ (fun ρ hr' => ?_)
      · have ce2 : sX10_undo q x1 σ = σ := by unfold sX10_undo; rw [if_neg n0, if_pos (y4.mpr hx.2), if_neg (fun z => hl (yl.mp z))]
        refine StC.of evc ?_ (by rw [ce2]; exact h1) (by rw [ce2]; exact hi_rfl)
        unfold rX10_undo; rw [if_neg n0, if_pos (y4.mpr hx.2), if_neg (fun z => hl (yl.mp z))]
      · have ce2 : sX11_undo Q.length x1 ρ = ρ := by unfold sX11_undo; rw [if_pos ((i1 ρ).mpr hx), if_neg (fun z => hl ((ym ρ hr').mp z))]
        refine StM.of (evm ρ hr') ?_ (by rw [ce2]; exact hr') (by rw [ce2]; exact lo_rfl)
        unfold rX11_undo; rw [if_pos ((i1 ρ).mpr hx), if_neg (fun z => hl ((ym ρ hr').mp z))]
  · refine StK.mk (F := (-1000000002, (L, Q, I, T, fa, B, sd))) h2 ?_ (fun ρ hr' => ?_)
    · have ce2 : sX10_undo q x1 σ = σ ∧ rX10_undo q x1 σ = -1000000002 := by
        unfold sX10_undo rX10_undo
        by_cases c : x1 < 1
        · rw [if_pos c, if_pos c]; exact ⟨rfl, rfl⟩
        · have : ¬ x1 ≤ 20 := fun z => hx ⟨by have := mt y0.mpr c; omega, y4.mp z⟩
          rw [if_neg c, if_neg c, if_neg this, if_neg this]; exact ⟨rfl, rfl⟩
      exact StC.of evc ce2.2 (by rw [ce2.1]; exact h1) (by rw [ce2.1]; exact hi_rfl)
    · have n1 := mt (i1 ρ).mp hx
      exact StM.of (evm ρ hr') (if_neg n1) (by unfold sX11_undo; rw [if_neg n1]; exact hr') (by unfold sX11_undo; rw [if_neg n1]; exact lo_rfl)
end
