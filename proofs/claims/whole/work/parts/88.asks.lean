noncomputable section
theorem sum_c {f : Nat → Int32} {w : List Nat} (hv : Vl f w) : ∀ (n : Nat), n ≤ w.length → sumI f n = nI ((w.take n).sum)
  | 0, _ => rfl
  | n + 1, h => by rw [sumI, sum_c hv n (by omega), hv n (by omega), nI_add, take_sum (by omega)]
theorem RMs.kq {σ τ : Sg} {S : Ab} (k : Kq I10 L10 σ τ) (h : RMs σ S) : RMs τ S := RM.kq k h
theorem k_told {σ : Sg} (h : Rel σ) (x1 : Int32) : StK σ yX10_told cX10_told 2 yX11_told cX11_told 2 [.int x1] := by
  obtain ⟨⟨L, Q, I, T, fa, B, sd⟩, h1, h2⟩ := h
  obtain ⟨q, hc⟩ := h1.q
  have sh := hc.1
  have ok := sh.2.1
  have c5 := hc.2.2.2.2.1
  obtain ⟨w1, w2⟩ := hc.2.2.2.2.2.2.w
  obtain ⟨l1, l2, l3⟩ := la_ok hc
  have evc := fun (l : Launch) (b : Nat) (cy : Nat → ClassId) (D : va_G) => ev_X10_told (l := l) (b := b) (cy := cy) (D := D) (d := 0) (x1 := x1) sh.1 ok.1 w1 w2 c5.1 c5.2.1
  have evm := fun (ρ : Sg) (hr' : RMs ρ (L, Q, I, T, fa, B, sd)) (l : Launch) (b : Nat) (cy : Nat → ClassId) (D : va_G) => ev_X11_told (l := l) (b := b) (cy := cy) (D := D) (d := 0) (x1 := x1) (now_ok hr'.1 ok) ok.1 hr'.1.1 hr'.2.2.2.2.1.1 c5.2.1
  by_cases e0 : x1 = 0
  · subst e0
    refine StK.mk (F := (nI L.length, (L, Q, I, T, fa, B, sd))) h2 ?_ (fun ρ hr' => ?_)
    · refine StC.of evc ?_ ?_ ?_
      · unfold rX10_told; rw [if_pos rfl]; exact sh.1
      · unfold sX10_told; rw [if_pos rfl]; exact h1
      · unfold sX10_told; rw [if_pos rfl]; exact hi_rfl
    · refine StM.of (evm ρ hr') ?_ ?_ ?_
      · unfold rX11_told; rw [if_pos rfl]; exact hr'.1.1
      · unfold sX11_told; rw [if_pos rfl]; exact hr'
      · unfold sX11_told; rw [if_pos rfl]; exact lo_rfl
  by_cases e1 : x1 = 1
  · subst e1
    refine StK.mk (F := (nI T.length, (L, Q, I, T, fa, B, sd))) h2 ?_ (fun ρ hr' => ?_)
    · refine StC.of evc ?_ ?_ ?_
      · unfold rX10_told; rw [if_neg e0, if_pos rfl]; exact hc.2.2.2.1.1
      · unfold sX10_told; rw [if_neg e0, if_pos rfl]; exact h1
      · unfold sX10_told; rw [if_neg e0, if_pos rfl]; exact hi_rfl
    · refine StM.of (evm ρ hr') ?_ ?_ ?_
      · unfold rX11_told; rw [if_neg e0, if_pos rfl]; exact hr'.2.2.2.1.1
      · unfold sX11_told; rw [if_neg e0, if_pos rfl]; exact hr'
      · unfold sX11_told; rw [if_neg e0, if_pos rfl]; exact lo_rfl
  by_cases e2 : x1 = 2
  · subst e2
    refine StK.mk (F := (cfaA L L.length 0 0, (L, Q, I, T, fa, B, sd))) h2 ?_ (fun ρ hr' => ?_)
    · refine StC.of evc ?_ ?_ ?_
      · unfold rX10_told; rw [if_neg e0, if_neg e1, if_pos rfl]; exact cfa_c ok l2 L.length 0 0 (by omega)
      · unfold sX10_told; rw [if_neg e0, if_neg e1, if_pos rfl]; exact ⟨q, l1⟩
      · unfold sX10_told; rw [if_neg e0, if_neg e1, if_pos rfl]; exact l3
    · obtain ⟨g1, g2, g3⟩ := fs_m ok L.length 0 0 0 ρ (by omega) hr'.1 (by omega)
      refine StM.of (evm ρ hr') ?_ ?_ ?_
      · unfold rX11_told; rw [if_neg e0, if_neg e1, if_pos rfl]; unfold fsR; rw [if_pos rfl]; exact g1
      · unfold sX11_told; rw [if_neg e0, if_neg e1, if_pos rfl]; exact hr'.kq g3
      · unfold sX11_told; rw [if_neg e0, if_neg e1, if_pos rfl]; exact lo_kq g3
  by_cases e3 : x1 = 3
  · subst e3
    refine StK.mk (F := (gfaA L L.length 0 0, (L, Q, I, T, fa, B, sd))) h2 ?_ (fun ρ hr' => ?_)
    · refine StC.of evc ?_ ?_ ?_
      · unfold rX10_told; rw [if_neg e0, if_neg e1, if_neg e2, if_pos rfl]; exact gfa_c ok l2 L.length 0 0 (by omega)
      · unfold sX10_told; rw [if_neg e0, if_neg e1, if_neg e2, if_pos rfl]; exact ⟨q, l1⟩
      · unfold sX10_told; rw [if_neg e0, if_neg e1, if_neg e2, if_pos rfl]; exact l3
    · obtain ⟨g1, g2, g3⟩ := fs_m ok L.length 0 0 0 ρ (by omega) hr'.1 (by omega)
      refine StM.of (evm ρ hr') ?_ ?_ ?_
      · unfold rX11_told; rw [if_neg e0, if_neg e1, if_neg e2, if_pos rfl]; unfold fsR; rw [if_neg (by decide)]; exact g2
      · unfold sX11_told; rw [if_neg e0, if_neg e1, if_neg e2, if_pos rfl]; exact hr'.kq g3
      · unfold sX11_told; rw [if_neg e0, if_neg e1, if_neg e2, if_pos rfl]; exact lo_kq g3
  by_cases e4 : x1 = 4
  · subst e4
    obtain ⟨t1, t2, t3⟩ := ctw_c L.length 0 0 (laR L.length σ) (by omega) l1 l2
    refine StK.mk (F := (twA L L.length 0 0, (L, Q, I, T, fa, B, sd))) h2 ?_ (fun ρ hr' => ?_)
    · refine StC.of evc ?_ ?_ ?_
      · unfold rX10_told; rw [if_neg e0, if_neg e1, if_neg e2, if_neg e3, if_pos rfl]; exact t1
      · unfold sX10_told; rw [if_neg e0, if_neg e1, if_neg e2, if_neg e3, if_pos rfl]; exact ⟨q, t2⟩
      · unfold sX10_told; rw [if_neg e0, if_neg e1, if_neg e2, if_neg e3, if_pos rfl]; exact fun a ha => (t3 a ha).trans (l3 a ha)
    · obtain ⟨g1, g2⟩ := tws_m ok L.length 0 0 ρ (by omega) hr'.1
      refine StM.of (evm ρ hr') ?_ ?_ ?_
      · unfold rX11_told; rw [if_neg e0, if_neg e1, if_neg e2, if_neg e3, if_pos rfl]; exact g1
      · unfold sX11_told; rw [if_neg e0, if_neg e1, if_neg e2, if_neg e3, if_pos rfl]; exact hr'.kq g2
      · unfold sX11_told; rw [if_neg e0, if_neg e1, if_neg e2, if_neg e3, if_pos rfl]; exact lo_kq g2
  by_cases e5 : x1 = 5
  · subst e5
    refine StK.mk (F := (nI B.length, (L, Q, I, T, fa, B, sd))) h2 ?_ (fun ρ hr' => ?_)
    · refine StC.of evc ?_ ?_ ?_
      · unfold rX10_told; rw [if_neg e0, if_neg e1, if_neg e2, if_neg e3, if_neg e4, if_pos rfl]; exact c5.1
      · unfold sX10_told; rw [if_neg e0, if_neg e1, if_neg e2, if_neg e3, if_neg e4, if_pos rfl]; exact h1
      · unfold sX10_told; rw [if_neg e0, if_neg e1, if_neg e2, if_neg e3, if_neg e4, if_pos rfl]; exact hi_rfl
    · refine StM.of (evm ρ hr') ?_ ?_ ?_
      · unfold rX11_told; rw [if_neg e0, if_neg e1, if_neg e2, if_neg e3, if_neg e4, if_pos rfl]; exact hr'.2.2.2.2.1.1
      · unfold sX11_told; rw [if_neg e0, if_neg e1, if_neg e2, if_neg e3, if_neg e4, if_pos rfl]; exact hr'
      · unfold sX11_told; rw [if_neg e0, if_neg e1, if_neg e2, if_neg e3, if_neg e4, if_pos rfl]; exact lo_rfl
  by_cases e6 : x1 = 6
  · subst e6
    refine StK.mk (F := (fwA L B B.length 0, (L, Q, I, T, fa, B, sd))) h2 ?_ (fun ρ hr' => ?_)
    · refine StC.of evc ?_ ?_ ?_
      · unfold rX10_told; rw [if_neg e0, if_neg e1, if_neg e2, if_neg e3, if_neg e4, if_neg e5, if_pos rfl]; exact fw_c l1.1 l2 l1.2.2.2.2.1 B.length 0 (by omega)
      · unfold sX10_told; rw [if_neg e0, if_neg e1, if_neg e2, if_neg e3, if_neg e4, if_neg e5, if_pos rfl]; exact ⟨q, l1⟩
      · unfold sX10_told; rw [if_neg e0, if_neg e1, if_neg e2, if_neg e3, if_neg e4, if_neg e5, if_pos rfl]; exact l3
    · obtain ⟨g1, g2⟩ := wg_m ok c5.2.1 B.length 0 ρ (by omega) hr'.1 hr'.2.2.2.2.1.2
      refine StM.of (evm ρ hr') ?_ ?_ ?_
      · unfold rX11_told; rw [if_neg e0, if_neg e1, if_neg e2, if_neg e3, if_neg e4, if_neg e5, if_pos rfl]; exact g1
      · unfold sX11_told; rw [if_neg e0, if_neg e1, if_neg e2, if_neg e3, if_neg e4, if_neg e5, if_pos rfl]; exact hr'.kq g2
      · unfold sX11_told; rw [if_neg e0, if_neg e1, if_neg e2, if_neg e3, if_neg e4, if_neg e5, if_pos rfl]; exact lo_kq g2
  by_cases e7 : x1 = 7
  · subst e7
    refine StK.mk (F := (nI Q.length, (L, Q, I, T, fa, B, sd))) h2 ?_ (fun ρ hr' => ?_)
    · refine StC.of evc ?_ ?_ ?_
      · unfold rX10_told; rw [if_neg e0, if_neg e1, if_neg e2, if_neg e3, if_neg e4, if_neg e5, if_neg e6, if_pos rfl]; exact hc.2.1.2.2.1
      · unfold sX10_told; rw [if_neg e0, if_neg e1, if_neg e2, if_neg e3, if_neg e4, if_neg e5, if_neg e6, if_pos rfl]; exact h1
      · unfold sX10_told; rw [if_neg e0, if_neg e1, if_neg e2, if_neg e3, if_neg e4, if_neg e5, if_neg e6, if_pos rfl]; exact hi_rfl
    · refine StM.of (evm ρ hr') ?_ ?_ ?_
      · unfold rX11_told; rw [if_neg e0, if_neg e1, if_neg e2, if_neg e3, if_neg e4, if_neg e5, if_neg e6, if_pos rfl]; exact hr'.2.1.1
      · unfold sX11_told; rw [if_neg e0, if_neg e1, if_neg e2, if_neg e3, if_neg e4, if_neg e5, if_neg e6, if_pos rfl]; exact hr'
      · unfold sX11_told; rw [if_neg e0, if_neg e1, if_neg e2, if_neg e3, if_neg e4, if_neg e5, if_neg e6, if_pos rfl]; exact lo_rfl
  refine StK.mk (F := (-1000000002, (L, Q, I, T, fa, B, sd))) h2 ?_ (fun ρ hr' => ?_)
  · refine StC.of evc ?_ ?_ ?_
    · unfold rX10_told; rw [if_neg e0, if_neg e1, if_neg e2, if_neg e3, if_neg e4, if_neg e5, if_neg e6, if_neg e7]
    · unfold sX10_told; rw [if_neg e0, if_neg e1, if_neg e2, if_neg e3, if_neg e4, if_neg e5, if_neg e6, if_neg e7]; exact h1
    · unfold sX10_told; rw [if_neg e0, if_neg e1, if_neg e2, if_neg e3, if_neg e4, if_neg e5, if_neg e6, if_neg e7]; exact hi_rfl
  · refine StM.of (evm ρ hr') ?_ ?_ ?_
    · unfold rX11_told; rw [if_neg e0, if_neg e1, if_neg e2, if_neg e3, if_neg e4, if_neg e5, if_neg e6, if_neg e7]
    · unfold sX11_told; rw [if_neg e0, if_neg e1, if_neg e2, if_neg e3, if_neg e4, if_neg e5, if_neg e6, if_neg e7]; exact hr'
    · unfold sX11_told; rw [if_neg e0, if_neg e1, if_neg e2, if_neg e3, if_neg e4, if_neg e5, if_neg e6, if_neg e7]; exact lo_rfl
/-- what a square tells, in short -/
def sqA (A : Mx) (w : Int32) : Int32 := if w = 0 then knd A else if w = 1 then iI (mtr A) + 2000000 else if w = 2 then (if mtr A < 0 then 0 else 2) else if w = 3 then (if knd A = 0 then (if 0 < mtr A then 1 else 2) else if knd A = 1 then (if mtr A < 0 then 3 else if mtr A = 0 then 4 else 6) else -1) else if w = 4 then (if knd A = 2 then iI (shN A) + 3000000 else 0) else if w = 5 then nI (whl A).length else if w = 6 then nI (if knd A = 3 then TM (whl A) else 0) else nI (whl A).sum
theorem of_m {σ : Sg} {L : List Mx} {s : Nat} (x w : Int32) (h : M1 σ L) (ok : okL L) (hs : s < L.length) : rX11_ofSquare L.length s x w σ = sqA (gq L s) w ∧ Kq I10 L10 σ (sX11_ofSquare L.length s x w σ) := by
  obtain ⟨k1, k2, k3, k4, k5⟩ := kn_m x h ok hs
  have oA := okL_at ok hs
  have tb := tr_bd oA.2
  obtain ⟨a1, a2, a3, a4, a5, a6, a7, a8⟩ := k1
  have es : sX11_ofSquare L.length s x w σ = sKn (sX11_takesFrom s x σ) := by
    unfold sX11_ofSquare
    repeat' split
    all_goals rfl
  refine ⟨?_, by rw [es]; exact k810 k4⟩
  unfold rX11_ofSquare rX11_order sqA
  generalize sKn (sX11_takesFrom s x σ) = τ at *
  rw [a1, a2, a5, a7, a8, a3, lI_iI, lI_nI]
  have t1 := lI_lt0 (x := mtr (gq L s)) (by unfold rg; omega)
  have t2 := lI_0lt (x := mtr (gq L s)) (by unfold rg; omega)
  have t3 := lI_eq0 (x := mtr (gq L s)) (by unfold rg; omega)
  have u2' : (if lI (mtr (gq L s)) < 0 then (0 : Int32) else 2) = (if mtr (gq L s) < 0 then 0 else 2) := by
    by_cases c : mtr (gq L s) < 0
    · rw [if_pos c, if_pos (t1.mpr c)]
    · rw [if_neg c, if_neg (fun z => c (t1.mp z))]
  have u3 : (if 0 < lI (mtr (gq L s)) then (1 : Int32) else 2) = (if 0 < mtr (gq L s) then 1 else 2) := by
    by_cases c : 0 < mtr (gq L s)
    · rw [if_pos c, if_pos (t2.mpr c)]
    · rw [if_neg c, if_neg (fun z => c (t2.mp z))]
  have u4 : (if lI (mtr (gq L s)) < 0 then (3 : Int32) else if lI (mtr (gq L s)) = 0 then 4 else 6) = (if mtr (gq L s) < 0 then 3 else if mtr (gq L s) = 0 then 4 else 6) := by
    by_cases c : mtr (gq L s) < 0
    · rw [if_pos c, if_pos (t1.mpr c)]
    · rw [if_neg c, if_neg (fun z => c (t1.mp z))]
      by_cases c2 : mtr (gq L s) = 0
      · rw [if_pos c2, if_pos (t3.mpr c2)]
      · rw [if_neg c2, if_neg (fun z => c2 (t3.mp z))]
  have u5 : (if knd (gq L s) = 2 then (lI (if knd (gq L s) = 2 then shN (gq L s) else 0)).toInt32 + 3000000 else 0) = (if knd (gq L s) = 2 then iI (shN (gq L s)) + 3000000 else 0) := by
    by_cases c : knd (gq L s) = 2
    · rw [if_pos c, if_pos c, if_pos c, lI_iI]
    · rw [if_neg c, if_neg c]
  rw [u2', u3, u4, u5]
theorem sq_c {τ : Sg} {L : List Mx} {s : Nat} (ok : okL L) (hk : KA τ L L.length) (hs : s < L.length) : rX3_kind (65 + 7 * s) (65 + 7 * s + 1) (65 + 7 * s + 2) (65 + 7 * s + 3) (65 + 7 * s + 4) (65 + 7 * s + 5) (65 + 7 * s + 6) τ = sqA (gq L s) 0 ∧ rX3_trace (65 + 7 * s) (65 + 7 * s + 1) (65 + 7 * s + 2) (65 + 7 * s + 3) (65 + 7 * s + 4) (65 + 7 * s + 5) (65 + 7 * s + 6) τ + 2000000 = sqA (gq L s) 1 ∧ rX3_sign (65 + 7 * s) (65 + 7 * s + 1) (65 + 7 * s + 2) (65 + 7 * s + 3) (65 + 7 * s + 4) (65 + 7 * s + 5) (65 + 7 * s + 6) τ + 1 = sqA (gq L s) 2 ∧ rX3_order (65 + 7 * s) (65 + 7 * s + 1) (65 + 7 * s + 2) (65 + 7 * s + 3) (65 + 7 * s + 4) (65 + 7 * s + 5) (65 + 7 * s + 6) τ = sqA (gq L s) 3 ∧ (if (rX3_kind (65 + 7 * s) (65 + 7 * s + 1) (65 + 7 * s + 2) (65 + 7 * s + 3) (65 + 7 * s + 4) (65 + 7 * s + 5) (65 + 7 * s + 6) τ : Int32) = 2 then (rX3_mark (65 + 7 * s) (65 + 7 * s + 1) (65 + 7 * s + 2) (65 + 7 * s + 3) (65 + 7 * s + 4) (65 + 7 * s + 5) (65 + 7 * s + 6) τ) + 3000000 else 0) = sqA (gq L s) 4 ∧ rX8_count (65 + 7 * s + 2) (65 + 7 * s + 3) (65 + 7 * s + 4) (65 + 7 * s + 5) (65 + 7 * s + 6) τ = sqA (gq L s) 5 ∧ nI (timesF (τ.1 (65 + 7 * s + 3)) (cnt τ (65 + 7 * s + 2)) 21 2) = sqA (gq L s) 6 ∧ sumI (τ.1 (65 + 7 * s + 3)) (cnt τ (65 + 7 * s + 2)) = sqA (gq L s) 10 := by
  have oA := okL_at ok hs
  have tb := tr_bd oA.2
  obtain ⟨a1, a2, a3, ws, t, b1, b2, b3, b4, b5, b6, b7, b8, b9, b10⟩ := hk s hs
  generalize gq L s = A at *
  have tle : t ≤ ws.length := by rcases b7 with z | ⟨z1, z2⟩ <;> omega
  have lw : (whl A).length = ws.length := by rw [b1, rtl_len]
  have et : rX3_trace (65 + 7 * s) (65 + 7 * s + 1) (65 + 7 * s + 2) (65 + 7 * s + 3) (65 + 7 * s + 4) (65 + 7 * s + 5) (65 + 7 * s + 6) τ = iI (mtr A) := kin_tr a1
  have ti : (iI (mtr A)).toInt = mtr A := by unfold iI; exact Int32.toInt_ofInt_of_le (by omega) (by omega)
  have l0 : 0 ≤ iI (mtr A) ↔ 0 ≤ mtr A := by rw [Int32.le_iff_toInt_le, ti]; rfl
  have l1 : iI (mtr A) ≤ 0 ↔ mtr A ≤ 0 := by rw [Int32.le_iff_toInt_le, ti]; rfl
  have l2 : iI (mtr A) = 0 ↔ mtr A = 0 := by
    have := iI_inj (x := mtr A) (y := 0) (by omega) (by omega)
    exact this
  have ec : cnt τ (65 + 7 * s + 2) = ws.length := by unfold cnt; rw [b8, nI_clamp (by omega)]
  refine ⟨a2, by rw [et]; rfl, ?_, ?_, ?_, ?_, ?_, ?_⟩
  · unfold rX3_sign
    rw [et]
    show _ = (if mtr A < 0 then (0 : Int32) else 2)
    by_cases c : mtr A < 0
    · rw [if_pos c, if_neg (fun z => by have := l0.mp z; omega)]; decide +kernel
    · rw [if_neg c, if_pos (l0.mpr (by omega))]; decide +kernel
  · unfold rX3_order
    rw [et, a2]
    show _ = (if knd A = 0 then (if 0 < mtr A then (1 : Int32) else 2) else if knd A = 1 then (if mtr A < 0 then 3 else if mtr A = 0 then 4 else 6) else -1)
    by_cases c0 : knd A = 0
    · rw [if_pos c0, if_pos c0]
      by_cases c : mtr A ≤ 0
      · rw [if_pos (l1.mpr c), if_neg (by omega)]
      · rw [if_neg (fun z => c (l1.mp z)), if_pos (by omega)]
    · rw [if_neg c0, if_neg c0]
      by_cases c1 : knd A = 1
      · rw [if_pos c1, if_pos c1]
        by_cases c : mtr A = 0
        · rw [if_pos (l2.mpr c), if_neg (by omega), if_pos c]
        · rw [if_neg (fun z => c (l2.mp z))]
          by_cases d : mtr A ≤ 0
          · rw [if_pos (l1.mpr d), if_pos (by omega)]
          · rw [if_neg (fun z => d (l1.mp z)), if_neg (by omega), if_neg c]
      · rw [if_neg c1, if_neg c1]
  · unfold rX3_kind rX3_mark
    rw [a2, a3]
    show _ = (if knd A = 2 then iI (shN A) + 3000000 else 0)
    by_cases c : knd A = 2
    · rw [if_pos c, if_pos c]
      unfold mrk
      rw [if_neg (by rw [c]; decide), if_pos c]
    · rw [if_neg c, if_neg c]
  · show τ.1 (65 + 7 * s + 2) 3 = nI (whl A).length
    rw [b8, lw]
  · rw [ec, times_ok b10 b5 b3 b2]
    show _ = nI (if knd A = 3 then TM (whl A) else 0)
    have em : ws.length = 0 ↔ ¬ knd A = 3 := by
      constructor
      · intro z c
        have := (whl_sb oA).2.2.2.2 c
        rw [b1] at this
        exact this (List.length_eq_zero_iff.mp (by rw [rtl_len]; exact z))
      · intro c
        have := whl_nil c
        rw [← lw, this]; rfl
    by_cases c : knd A = 3
    · rw [if_neg (fun z => em.mp z c), if_pos c, b1, TM_rtl tle]
    · rw [if_pos (em.mpr c), if_neg c]
  · rw [ec, sum_c b10 ws.length (Nat.le_refl _), List.take_length]
    show _ = nI (whl A).sum
    rw [b1, sum_rtl]
end
