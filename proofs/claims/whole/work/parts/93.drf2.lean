/-! drift: the loops of both -/
noncomputable section
/-- squares drawn one after another while there is room -/
def dft : Nat → List Mx × List (List Mx) × Nat → List Mx × List (List Mx) × Nat
  | 0, S => S
  | m + 1, S => if S.1.length < 12 then dft m (S.1 ++ [(dsq S.2.2).1], psh S.2.1 S.1, (dsq S.2.2).2) else S
theorem dft_p {m : Nat} {L : List Mx} {Q : List (List Mx)} {s : Nat} (h : L.length < 12) : dft (m + 1) (L, Q, s) = dft m (L ++ [(dsq s).1], psh Q L, (dsq s).2) := by
  rw [dft, if_pos h]
theorem dft_n {m : Nat} {L : List Mx} {Q : List (List Mx)} {s : Nat} (h : ¬ L.length < 12) : dft (m + 1) (L, Q, s) = (L, Q, s) := by
  rw [dft, if_neg h]
theorem hi_trans {σ τ ρ : Sg} (h : hiS σ τ) (k : hiS τ ρ) : hiS σ ρ := fun a ha => (k a ha).trans (h a ha)
set_option maxRecDepth 100000 in
theorem g_dend {l : Launch} {b : Nat} {cy : Nat → ClassId} {D : va_G} {d : Nat} {x k : Int32} {σ : Sg} {L : List Mx} (h : ShC σ 1 2 L) : Gs l b cy D (d + 5) yX10_drift cX10_drift fI 3 (some (.int (nI L.length))) σ 54 [(0, .ref (b + 0)), (1, .int x), (2, .int k)] [] σ := by
  refine g_aload_n (pc' := 55) dX10_drift_54 rfl 0 rfl rfl ?_
  refine g_getR (pc' := 58) (a := 1) dX10_drift_55 rfl (PLk.lf fX10_10) o0 rfl ?_
  refine g_callr (pc' := 61) dX10_drift_58 rfl mX10_107 (ev_X5_size (k := 1) (c := 2) (σ := σ) sf1 (d := d)) o1 rfl (rm_ok (by omega) (by decide)) ⟨rfl, rfl⟩ ⟨Nat.zero_le _, Nat.zero_le _⟩ rfl rfl (Nat.le_of_ble_eq_true rfl) ?_
  rw [show rX5_size 1 2 σ = nI L.length from h.1]
  exact g_iret dX10_drift_61 rfl ⟨rfl, rfl⟩ rfl
set_option maxRecDepth 100000 in
theorem lp_dft {I : Ims} {T : List Int32} {fa : Int32} {B : Bk} {c : Nat} (hc : c < 100) : ∀ (m i : Nat) (σ : Sg) (L : List Mx) (Q : List (List Mx)) (q : Nat) (s : Nat) (sd : Int32), RC σ L Q q I T fa B sd → sN sd = s → i + m = c → ∃ τ q' sd', (∀ (l : Launch) (b : Nat) (cy : Nat → ClassId) (D : va_G) (d : Nat), Gs l b cy D (d + 5) yX10_drift cX10_drift fI 3 (some (.int (nI (dft m (L, Q, s)).1.length))) τ 16 [(0, .ref (b + 0)), (1, .int (nI c)), (2, .int (nI i))] [] σ) ∧ RC τ (dft m (L, Q, s)).1 (dft m (L, Q, s)).2.1 q' I T fa B sd' ∧ sN sd' = (dft m (L, Q, s)).2.2 ∧ hiS σ τ := by
  intro m
  induction m with
  | zero =>
    intro i σ L Q q s sd h hs hi
    refine ⟨σ, q, sd, fun l b cy D d => ?_, h, hs, hi_rfl⟩
    refine g_iload_n (pc' := 17) dX10_drift_16 rfl 2 rfl rfl ?_
    refine g_iload_n (pc' := 18) dX10_drift_17 rfl 1 rfl rfl ?_
    refine g_icmp_ge (pc' := 21) (tgt := 54) dX10_drift_18 rfl (by decide) (fun (c1 : (nI c : Int32) ≤ (nI i)) => ?_) (fun (c1 : ¬ (nI c : Int32) ≤ (nI i)) => ?_)
    · exact g_dend h.1
    · exact absurd (by rw [show i = c by omega]; exact Int32.le_refl _) c1
  | succ m ih =>
    intro i σ L Q q s sd h hs hi
    have fu := full_c h.1
    by_cases hn : L.length < 12
    · rw [dft_p hn]
      obtain ⟨τ, ev, ⟨sd1, r1, e1⟩, a1, f1⟩ := ds_c h
      rw [hs] at e1 a1
      obtain ⟨p1, p2, p3⟩ := rc_place r1 hn a1 (dsq_ok s)
      obtain ⟨τ2, q2, sd2, g2, r2, e2, f2⟩ := ih (i + 1) _ _ _ _ _ _ p1 e1 (by omega)
      refine ⟨τ2, q2, sd2, fun l b cy D d => ?_, r2, e2, hi_trans f1 (hi_trans p2 f2)⟩
      refine g_iload_n (pc' := 17) dX10_drift_16 rfl 2 rfl rfl ?_
      refine g_iload_n (pc' := 18) dX10_drift_17 rfl 1 rfl rfl ?_
      refine g_icmp_ge (pc' := 21) (tgt := 54) dX10_drift_18 rfl (by decide) (fun (c1 : (nI c : Int32) ≤ (nI i)) => ?_) (fun (c1 : ¬ (nI c : Int32) ≤ (nI i)) => ?_)
      · exact absurd c1 (by rw [Int32.le_iff_toInt_le, nI_int (by omega), nI_int (by omega)]; omega)
      · refine g_aload_n (pc' := 22) dX10_drift_21 rfl 0 rfl rfl ?_
        refine g_getR (pc' := 25) (a := 1) dX10_drift_22 rfl (PLk.lf fX10_10) o0 rfl ?_
        refine g_callr (pc' := 28) dX10_drift_25 rfl mX10_82 (ev_X5_isFull (k := 1) (c := 2) (σ := σ) sf1 (d := d)) o1 rfl (rm_ok (by omega) (by decide)) ⟨rfl, rfl⟩ ⟨Nat.zero_le _, Nat.zero_le _⟩ rfl rfl (Nat.le_of_ble_eq_true rfl) ?_
        refine g_ifb_ne (pc' := 31) (tgt := 54) dX10_drift_28 rfl (by decide) (fun (c1 : rX5_isFull 1 2 σ = true) => absurd (fu.mp c1) (by omega)) (fun (c1 : rX5_isFull 1 2 σ = false) => ?_)
        refine g_aload_n (pc' := 32) dX10_drift_31 rfl 0 rfl rfl ?_
        refine g_aload_n (pc' := 33) dX10_drift_32 rfl 0 rfl rfl ?_
        refine g_getR (pc' := 36) (a := 152) dX10_drift_33 rfl (PLk.lf fX10_60) o0 rfl ?_
        refine g_callv (pc' := 39) dX10_drift_36 rfl mX10_226 (ev l b cy D d) o0 rfl (rm_ok (by omega) (by decide)) ⟨rfl, rfl⟩ ⟨Nat.zero_le _, Nat.zero_le _⟩ rfl rfl (Nat.le_of_ble_eq_true rfl) ?_
        refine g_aload_n (pc' := 40) dX10_drift_39 rfl 0 rfl rfl ?_
        refine g_aload_n (pc' := 41) dX10_drift_40 rfl 0 rfl rfl ?_
        refine g_getR (pc' := 44) (a := 152) dX10_drift_41 rfl (PLk.lf fX10_60) o0 rfl ?_
        refine g_callr (pc' := 47) dX10_drift_44 rfl mX10_90 (ev_X10_place (i := 152) (q := q) (n := L.length) (σ := τ) o152 r1.2.1.2.1 r1.2.1.1 r1.1.1 hn (d := d)) o0 rfl (rm_ok (by omega) (by decide)) ⟨rfl, rfl⟩ ⟨Nat.zero_le _, Nat.zero_le _⟩ rfl rfl (Nat.le_of_ble_eq_true rfl) ?_
        refine g_pop (pc' := 48) dX10_drift_47 rfl rfl ?_
        refine g_iinc (pc' := 51) (v := nI (i + 1)) (lv' := [(2, .int (nI (i + 1))), (0, .ref (b + 0)), (1, .int (nI c))]) dX10_drift_48 rfl 2 rfl (nI_1 i) (by decide) rfl ?_
        refine g_goto (tgt := 16) dX10_drift_51 (by decide) ?_
        refine g_sub [1, 2, 0] rfl ?_
        exact g2 l b cy D d
    · rw [dft_n hn]
      have hl := h.1.2.1.1
      refine ⟨σ, q, sd, fun l b cy D d => ?_, h, hs, hi_rfl⟩
      refine g_iload_n (pc' := 17) dX10_drift_16 rfl 2 rfl rfl ?_
      refine g_iload_n (pc' := 18) dX10_drift_17 rfl 1 rfl rfl ?_
      refine g_icmp_ge (pc' := 21) (tgt := 54) dX10_drift_18 rfl (by decide) (fun (c1 : (nI c : Int32) ≤ (nI i)) => ?_) (fun (c1 : ¬ (nI c : Int32) ≤ (nI i)) => ?_)
      · exact g_dend h.1
      · refine g_aload_n (pc' := 22) dX10_drift_21 rfl 0 rfl rfl ?_
        refine g_getR (pc' := 25) (a := 1) dX10_drift_22 rfl (PLk.lf fX10_10) o0 rfl ?_
        refine g_callr (pc' := 28) dX10_drift_25 rfl mX10_82 (ev_X5_isFull (k := 1) (c := 2) (σ := σ) sf1 (d := d)) o1 rfl (rm_ok (by omega) (by decide)) ⟨rfl, rfl⟩ ⟨Nat.zero_le _, Nat.zero_le _⟩ rfl rfl (Nat.le_of_ble_eq_true rfl) ?_
        refine g_ifb_ne (pc' := 31) (tgt := 54) dX10_drift_28 rfl (by decide) (fun (c1 : rX5_isFull 1 2 σ = true) => ?_) (fun (c1 : rX5_isFull 1 2 σ = false) => absurd (fu.mpr (by omega)) (by rw [c1]; decide))
        exact g_dend h.1
/-- the reference's square -/
theorem ds_mi {L : List Mx} {Q : List (List Mx)} {I : Ims} {T : List Int32} {fa : Int32} {B : Bk} : ∀ (m : Nat) (σ : Sg) (C : Mx) (s : Nat) (sd : Int32), RM σ L Q I T fa B sd → 0 ≤ sd → sN sd = s → Am σ C → ∃ sd', RM (drI m σ) L Q I T fa B sd' ∧ 0 ≤ sd' ∧ sN sd' = (dwd m (C, s)).2 ∧ Am (drI m σ) (dwd m (C, s)).1 ∧ loS σ (drI m σ) := by
  intro m
  induction m with
  | zero => intro σ C s sd h h0 hs hC; rw [drI_z]; exact ⟨sd, h, h0, hs, hC, lo_rfl⟩
  | succ m ih =>
    intro σ C s sd h h0 hs hC
    have e5 : σ.1 159 5 = sd := h.2.2.2.2.2
    obtain ⟨d1, d2⟩ := mdraw (σ := σ) (c := 6) (by rw [e5]; exact h0) (by decide) (by decide)
    rw [e5, hs] at d1 d2
    have hj : pkN 6 s < 6 := pq_lt (by decide)
    have r1 := rm_sd s h
    have a1 : Am (u2 σ.1 159 5 (nI (nx s)), σ.2) C := am_fr ⟨rfl, rfl, rfl, rfl⟩ hC
    have a2 := lM_m hj a1
    obtain ⟨_, _, m3, m4⟩ := mbl_m (x := 0) a1
    have st : drSt σ = sX11_comes (nI (pkN 6 s)) (u2 σ.1 159 5 (nI (nx s)), σ.2) := by
      rw [drSt_e, show (6 : Int32) = nI 6 from rfl, d1, d2]
    have r2 : RM (drSt σ) L Q I T fa B (nI (nx s)) := by
      rw [st]
      exact RM.fr (fun a j _ => by rw [m3]) r1
    rw [← st] at a2
    obtain ⟨sd', b1, b2, b3, b4, b5⟩ := ih (drSt σ) _ (nx s) _ r2 (nx_nn s) (sN_nx s) a2
    rw [drI_s]
    refine ⟨sd', b1, b2, b3, b4, lo_trans (lo_trans (τ := (u2 σ.1 159 5 (nI (nx s)), σ.2)) (fun a ha => ⟨u2k (by omega), rfl⟩) ?_) b5⟩
    rw [st]
    exact m4 _
theorem ds_m {L : List Mx} {Q : List (List Mx)} {I : Ims} {T : List Int32} {fa : Int32} {B : Bk} {σ : Sg} {sd : Int32} (h : RM σ L Q I T fa B sd) (h0 : 0 ≤ sd) : ∃ sd', RM (drT σ) L Q I T fa B sd' ∧ 0 ≤ sd' ∧ sN sd' = (dsq (sN sd)).2 ∧ Am (drT σ) (dsq (sN sd)).1 ∧ loS σ (drT σ) := by
  have e5 : σ.1 159 5 = sd := h.2.2.2.2.2
  obtain ⟨d1, d2⟩ := mdraw (σ := σ) (c := 8) (by rw [e5]; exact h0) (by decide) (by decide)
  rw [e5] at d1 d2
  have h8 : pkN 8 (sN sd) < 8 := pq_lt (by decide)
  have r1 := rm_sd (sN sd) h
  have st : drT0 σ = sX11_takes 1 0 0 1 (u2 σ.1 159 5 (nI (nx (sN sd))), σ.2) := by
    rw [drT0_e, show (8 : Int32) = nI 8 from rfl, d2]
  have ct : (drM σ).toNatClampNeg = pkN 8 (sN sd) + 2 := by
    rw [drM_e, show (8 : Int32) = nI 8 from rfl, d1, show (2 : Int32) = nI 2 from rfl, nI_add, nI_clamp (by omega)]
  have r2 : RM (drT0 σ) L Q I T fa B (nI (nx (sN sd))) := by
    rw [st]; exact RM.fr (fun _ _ _ => rfl) r1
  have a2 : Am (drT0 σ) mo := by rw [st]; exact am_tk rfl rfl rfl rfl
  obtain ⟨sd', b1, b2, b3, b4, b5⟩ := ds_mi (pkN 8 (sN sd) + 2) (drT0 σ) mo (nx (sN sd)) _ r2 (nx_nn _) (sN_nx _) a2
  rw [drT_e, ct]
  refine ⟨sd', b1, b2, b3, b4, lo_trans (lo_trans (τ := (u2 σ.1 159 5 (nI (nx (sN sd))), σ.2)) (fun a ha => ⟨u2k (by omega), rfl⟩) ?_) b5⟩
  rw [st]
  exact lo_tk
theorem dr_m {I : Ims} {T : List Int32} {fa : Int32} {B : Bk} : ∀ (m : Nat) (σ : Sg) (L : List Mx) (Q : List (List Mx)) (s : Nat) (sd : Int32), RM σ L Q I T fa B sd → 0 ≤ sd → sN sd = s → L.length ≤ 12 → Q.length ≤ 20 → ∃ sd', RM (drO m Q.length L.length σ) (dft m (L, Q, s)).1 (dft m (L, Q, s)).2.1 I T fa B sd' ∧ 0 ≤ sd' ∧ sN sd' = (dft m (L, Q, s)).2.2 ∧ loS σ (drO m Q.length L.length σ) := by
  intro m
  induction m with
  | zero => intro σ L Q s sd h h0 hs hl hq; rw [drO_z]; exact ⟨sd, h, h0, hs, lo_rfl⟩
  | succ m ih =>
    intro σ L Q s sd h h0 hs hl hq
    by_cases hn : L.length < 12
    · rw [dft_p hn, drO_p m _ _ _ hn]
      obtain ⟨sd1, r1, z1, e1, a1, f1⟩ := ds_m h h0
      rw [hs] at e1 a1
      obtain ⟨_, p2, p3, p4⟩ := rm_puts r1 hn a1
      have hp := psh_len hq L
      have el : tN Q.length = (psh Q L).length := by rw [hp]; rfl
      obtain ⟨sd2, r2, z2, e2, f2⟩ := ih _ _ _ _ _ p2 z1 e1 (by rw [List.length_append, List.length_singleton]; omega) (by rw [← el]; exact tN_le hq)
      rw [← el, List.length_append, List.length_singleton] at r2 f2
      exact ⟨sd2, r2, z2, e2, lo_trans f1 (lo_trans (fun a ha => ⟨p4 a ha, by rw [p3]⟩) f2)⟩
    · rw [dft_n hn, drO_n m _ _ _ hn]
      exact ⟨sd, h, h0, hs, lo_rfl⟩
theorem sN_inj {x y : Int32} (hx : 0 ≤ x) (hy : 0 ≤ y) (h : sN x = sN y) : x = y := by
  apply Int32.toInt_inj.mp
  rw [i32_nat hx, i32_nat hy]
  exact congrArg _ h
set_option maxRecDepth 100000 in
theorem k_drift {σ : Sg} (h : Rel σ) (x : Int32) : StK σ yX10_drift cX10_drift 3 yX11_drift cX11_drift 5 [.int x] := by
  obtain ⟨⟨L, Q, I, T, fa, B, sd⟩, h1, h2⟩ := h
  obtain ⟨q, hc⟩ := h1.q
  have ok := hc.1.2.1
  have hq := hc.2.1
  have s0 := hc.2.2.2.2.2.1.2
  have i1 : ∀ ρ : Sg, rX11_in x.toInt64 1 12 ρ = true ↔ 1 ≤ x.toInt ∧ x.toInt ≤ 12 := fun ρ => in_i
  have evm := fun (ρ : Sg) (hr' : RMs ρ (L, Q, I, T, fa, B, sd)) (l : Launch) (b : Nat) (cy : Nat → ClassId) (D : va_G) => ev_X11_drift (l := l) (b := b) (cy := cy) (D := D) (d := 4) (x1 := x) hr'.2.1.1 hr'.2.1.2.1 hr'.1.1 hr'.1.2.1
  have x1 : x < 1 ↔ x.toInt < 1 := Int32.lt_iff_toInt_lt
  have x2 : x ≤ 12 ↔ x.toInt ≤ 12 := Int32.le_iff_toInt_le
  by_cases hx : 1 ≤ x.toInt ∧ x.toInt ≤ 12
  · have n0 : ¬ x < 0 := by rw [Int32.lt_iff_toInt_lt, show (0 : Int32).toInt = 0 from rfl]; omega
    have ex := nI_self n0
    have cx : x.toNatClampNeg ≤ 12 := by rw [Int32.toNatClampNeg]; omega
    obtain ⟨τ, q', sd', g, rc, es, f⟩ := lp_dft (c := x.toNatClampNeg) (by omega) x.toNatClampNeg 0 σ L Q q (sN sd) sd hc rfl (by omega)
    have z' := rc.2.2.2.2.2.1.2
    refine StK.mk (F := (nI (dft x.toNatClampNeg (L, Q, sN sd)).1.length, ((dft x.toNatClampNeg (L, Q, sN sd)).1, (dft x.toNatClampNeg (L, Q, sN sd)).2.1, I, T, fa, B, sd'))) h2 ?_ (fun ρ hr' => ?_)
    · refine StC.of (z := nI (dft x.toNatClampNeg (L, Q, sN sd)).1.length) (σ1 := τ) (fun l b cy D => ?_) rfl ⟨q', rc⟩ f
      refine Ev.of (by decide) (Nat.le_of_ble_eq_true rfl) rfl ?_
      refine g_iload_n (pc' := 1) dX10_drift_0 rfl 1 rfl rfl ?_
      refine g_iconst (pc' := 2) (v := 1) dX10_drift_1 rfl (by decide) ?_
      refine g_icmp_lt (pc' := 5) (tgt := 11) dX10_drift_2 rfl (by decide) (fun c => absurd (x1.mp c) (by omega)) (fun _ => ?_)
      refine g_iload_n (pc' := 6) dX10_drift_5 rfl 1 rfl rfl ?_
      refine g_bipush (pc' := 8) (v := 12) dX10_drift_6 rfl (by decide) ?_
      refine g_icmp_le (pc' := 11) (tgt := 14) dX10_drift_8 rfl (by decide) (fun _ => ?_) (fun c => absurd (x2.mpr hx.2) c)
      refine g_iconst (pc' := 15) (v := nI 0) dX10_drift_14 rfl (by decide) ?_
      refine g_istore_n (pc' := 16) (j := 2) (lv' := [(2, .int (nI 0)), (0, .ref (b + 0)), (1, .int x)]) dX10_drift_15 rfl rfl (by decide) rfl ?_
      refine g_sub [1, 2, 0] rfl ?_
      have g9 := g l b cy D 2
      rw [← ex] at g9
      exact g9
    · obtain ⟨sd2, r2, z2, e2, f2⟩ := dr_m x.toNatClampNeg ρ L Q (sN sd) sd hr' s0 rfl ok.1 hr'.2.1.2.1
      have ed : sd2 = sd' := sN_inj z2 z' (e2.trans es.symm)
      subst ed
      have e1 : sX11_drift Q.length L.length x ρ = drO x.toNatClampNeg Q.length L.length ρ := if_pos ((i1 ρ).mpr hx)
      have e3 : rX11_drift Q.length L.length x ρ = (drO x.toNatClampNeg Q.length L.length ρ).1 160 0 := if_pos ((i1 ρ).mpr hx)
      refine StM.of (evm ρ hr') ?_ ?_ ?_
      · rw [e3]; exact r2.1.1
      · rw [e1]; exact r2
      · rw [e1]; exact f2
  · refine StK.mk (F := (-1000000002, (L, Q, I, T, fa, B, sd))) h2 ?_ (fun ρ hr' => ?_)
    · refine StC.of (z := -1000000002) (σ1 := σ) (fun l b cy D => ?_) rfl h1 hi_rfl
      refine Ev.of (by decide) (Nat.le_of_ble_eq_true rfl) rfl ?_
      refine g_iload_n (pc' := 1) dX10_drift_0 rfl 1 rfl rfl ?_
      refine g_iconst (pc' := 2) (v := 1) dX10_drift_1 rfl (by decide) ?_
      have fin : Gs l b cy D 7 yX10_drift cX10_drift fI 3 (some (.int (-1000000002))) σ 11 [(0, .ref (b + 0)), (1, .int x)] [] σ := by
        refine g_ldc (pc' := 13) dX10_drift_11 rfl kX10_68 ?_
        exact g_iret dX10_drift_13 rfl ⟨rfl, rfl⟩ rfl
      refine g_icmp_lt (pc' := 5) (tgt := 11) dX10_drift_2 rfl (by decide) (fun _ => fin) (fun c => ?_)
      refine g_iload_n (pc' := 6) dX10_drift_5 rfl 1 rfl rfl ?_
      refine g_bipush (pc' := 8) (v := 12) dX10_drift_6 rfl (by decide) ?_
      refine g_icmp_le (pc' := 11) (tgt := 14) dX10_drift_8 rfl (by decide) (fun c2 => absurd ⟨by have := mt x1.mpr c; omega, x2.mp c2⟩ hx) (fun _ => fin)
    · have e1 : sX11_drift Q.length L.length x ρ = ρ := if_neg (fun z => hx ((i1 ρ).mp z))
      exact StM.of (evm ρ hr') (if_neg (fun z => hx ((i1 ρ).mp z))) (by rw [e1]; exact hr') (by rw [e1]; exact lo_rfl)
end
