/-! drift -/
noncomputable section
abbrev fV : Option FieldType := (Option.none : Option Jvm.ClassFile.FieldType)
theorem rc_sd {σ : Sg} {L : List Mx} {Q : List (List Mx)} {q : Nat} {I : Ims} {T : List Int32} {fa : Int32} {B : Bk} {sd : Int32} (s : Nat) (h : RC σ L Q q I T fa B sd) : RC (u2 σ.1 0 9 (nI (nx s)), σ.2) L Q q I T fa B (nI (nx s)) := by
  refine RC.sdn (σ := σ) (fun a _ ha => u2k ha) rfl ⟨?_, nx_nn s⟩ h
  dsimp only; rw [u2_eq]
theorem rm_sd {σ : Sg} {L : List Mx} {Q : List (List Mx)} {I : Ims} {T : List Int32} {fa : Int32} {B : Bk} {sd : Int32} (s : Nat) (h : RM σ L Q I T fa B sd) : RM (u2 σ.1 159 5 (nI (nx s)), σ.2) L Q I T fa B (nI (nx s)) := by
  refine RM.sdn (fun a ha _ => u2k ha) (fun j hj => u2_j hj) ?_ h
  dsimp only; rw [u2_eq]
set_option maxRecDepth 100000 in
theorem lp_dsq {L : List Mx} {Q : List (List Mx)} {q : Nat} {I : Ims} {T : List Int32} {fa : Int32} {B : Bk} {c : Nat} (hc : c < 100) : ∀ (m i : Nat) (σ : Sg) (C : Mx) (s : Nat) (sd : Int32), RC σ L Q q I T fa B sd → sN sd = s → At σ 152 C → i + m = c → ∃ τ, (∀ (l : Launch) (b : Nat) (cy : Nat → ClassId) (D : va_G) (d : Nat), Gs l b cy D (d + 4) yX10_drawSquare cX10_drawSquare fV 4 none τ 15 [(0, .ref (b + 0)), (1, .ref (b + 152)), (2, .int (nI c)), (3, .int (nI i))] [] σ) ∧ (∃ sd', RC τ L Q q I T fa B sd' ∧ sN sd' = (dwd m (C, s)).2) ∧ At τ 152 (dwd m (C, s)).1 ∧ hiS σ τ := by
  intro m
  induction m with
  | zero =>
    intro i σ C s sd h hs hC hi
    refine ⟨σ, fun l b cy D d => ?_, ⟨sd, h, hs⟩, hC, hi_rfl⟩
    refine g_iload_n (pc' := 16) dX10_drawSquare_15 rfl 3 rfl rfl ?_
    refine g_iload_n (pc' := 17) dX10_drawSquare_16 rfl 2 rfl rfl ?_
    refine g_icmp_ge (pc' := 20) (tgt := 42) dX10_drawSquare_17 rfl (by decide) (fun (c1 : (nI c : Int32) ≤ (nI i)) => ?_) (fun (c1 : ¬ (nI c : Int32) ≤ (nI i)) => ?_)
    · exact g_vret dX10_drawSquare_42 rfl ⟨rfl, rfl⟩ rfl
    · exact absurd (by rw [show i = c by omega]; exact Int32.le_refl _) c1
  | succ m ih =>
    intro i σ C s sd h hs hC hi
    have sdn := h.2.2.2.2.2.1
    have h0 : 0 ≤ σ.1 0 9 := by rw [sdn.1]; exact sdn.2
    have e0 : sN (σ.1 0 9) = s := by rw [sdn.1]; exact hs
    obtain ⟨d1, d2⟩ := cdraw (c := 6) h0 (by decide) (by decide)
    rw [e0] at d1 d2
    have hj : pkN 6 s < 6 := pq_lt (by decide)
    have r1 := rc_sd s h
    have a1 : At (u2 σ.1 0 9 (nI (nx s)), σ.2) 152 C := at_fr2 rfl hC
    obtain ⟨m1, _, m3, m4⟩ := mbl_c (x := lAt (pkN 6 s)) a1
    have m5 := (m1 _ (lM_s hj)).2
    have r2 : RC (sX6_multiplyByLetter 152 (lAt (pkN 6 s)) (u2 σ.1 0 9 (nI (nx s)), σ.2)) L Q q I T fa B (nI (nx s)) := RC.fr (σ := (u2 σ.1 0 9 (nI (nx s)), σ.2)) (fun a _ => by rw [m3]) (fun a ha => m4 a (by omega)) r1
    obtain ⟨τ, g, rc, at', hh⟩ := ih (i + 1) _ _ (nx s) _ r2 (sN_nx s) m5 (by omega)
    refine ⟨τ, fun l b cy D d => ?_, rc, at', fun a ha => ?_⟩
    · refine g_iload_n (pc' := 16) dX10_drawSquare_15 rfl 3 rfl rfl ?_
      refine g_iload_n (pc' := 17) dX10_drawSquare_16 rfl 2 rfl rfl ?_
      refine g_icmp_ge (pc' := 20) (tgt := 42) dX10_drawSquare_17 rfl (by decide) (fun (c1 : (nI c : Int32) ≤ (nI i)) => ?_) (fun (c1 : ¬ (nI c : Int32) ≤ (nI i)) => ?_)
      · exact absurd c1 (by rw [Int32.le_iff_toInt_le, nI_int (by omega), nI_int (by omega)]; omega)
      · refine g_aload_n (pc' := 21) dX10_drawSquare_20 rfl 1 rfl rfl ?_
        refine g_ldcS (pc' := 23) dX10_drawSquare_21 rfl rfl ?_
        refine g_aload_n (pc' := 24) dX10_drawSquare_23 rfl 0 rfl rfl ?_
        refine g_bipush (pc' := 26) (v := nI 6) dX10_drawSquare_24 rfl (by decide) ?_
        refine g_callr (pc' := 29) dX10_drawSquare_26 rfl mX10_241 (ev_X10_draw (x1 := nI 6) (σ := σ) (d := d)) o0 rfl (rm_ok (by omega) (by decide)) ⟨rfl, rfl⟩ ⟨Nat.zero_le _, Nat.zero_le _⟩ rfl rfl (Nat.le_of_ble_eq_true rfl) ?_
        rw [d1, d2]
        refine g_callT (pc' := 32) (st := [.ref (b + 152)]) dX10_drawSquare_29 rfl mX10_246s (ev_J0_at (d := d) hj) rfl (rm_ok (by omega) (by decide)) ⟨rfl, rfl⟩ ⟨Nat.zero_le _, Nat.zero_le _⟩ rfl rfl (Nat.le_of_ble_eq_true rfl) ?_
        refine g_callr (pc' := 35) dX10_drawSquare_32 rfl mX10_252 (ev_X6_multiplyByLetter (k := 152) (x1 := lAt (pkN 6 s)) (σ := (u2 σ.1 0 9 (nI (nx s)), σ.2)) o152 (d := d)) o152 rfl (rm_ok (by omega) (by decide)) ⟨rfl, rfl⟩ ⟨Nat.zero_le _, Nat.zero_le _⟩ rfl rfl (Nat.le_of_ble_eq_true rfl) ?_
        refine g_pop (pc' := 36) dX10_drawSquare_35 rfl rfl ?_
        refine g_iinc (pc' := 39) (v := nI (i + 1)) (lv' := [(3, .int (nI (i + 1))), (0, .ref (b + 0)), (1, .ref (b + 152)), (2, .int (nI c))]) dX10_drawSquare_36 rfl 3 rfl (nI_1 i) (by decide) rfl ?_
        refine g_goto (tgt := 15) dX10_drawSquare_39 (by decide) ?_
        refine g_sub [1, 2, 3, 0] rfl ?_
        exact g l b cy D d
    · rw [hh a ha, m3]; exact u2k (by omega)
set_option maxRecDepth 100000 in
theorem ds_c {L : List Mx} {Q : List (List Mx)} {q : Nat} {I : Ims} {T : List Int32} {fa : Int32} {B : Bk} {σ : Sg} {sd : Int32} (h : RC σ L Q q I T fa B sd) : ∃ τ, (∀ (l : Launch) (b : Nat) (cy : Nat → ClassId) (D : va_G) (d : Nat), Es l b cy D (d + 4) yX10_drawSquare cX10_drawSquare fV 4 [.ref (b + 0), .ref (b + 152)] σ none τ) ∧ (∃ sd', RC τ L Q q I T fa B sd' ∧ sN sd' = (dsq (sN sd)).2) ∧ At τ 152 (dsq (sN sd)).1 ∧ hiS σ τ := by
  have r0 : RC (sX6_setOne 152 σ) L Q q I T fa B sd := rc_tmp (by omega) h
  have a0 : At (sX6_setOne 152 σ) 152 mo := at_sq rfl rfl rfl rfl
  have sdn := r0.2.2.2.2.2.1
  have h0 : 0 ≤ (sX6_setOne 152 σ).1 0 9 := by rw [sdn.1]; exact sdn.2
  obtain ⟨d1, d2⟩ := cdraw (c := 8) h0 (by decide) (by decide)
  have e0 : sN ((sX6_setOne 152 σ).1 0 9) = sN sd := by rw [sdn.1]
  rw [e0] at d1 d2
  have h8 : pkN 8 (sN sd) < 8 := pq_lt (by decide)
  have r1 := rc_sd (sN sd) r0
  have a1 : At (u2 (sX6_setOne 152 σ).1 0 9 (nI (nx (sN sd))), (sX6_setOne 152 σ).2) 152 mo := at_fr2 rfl a0
  obtain ⟨τ, g, rc, at', hh⟩ := lp_dsq (c := pkN 8 (sN sd) + 2) (by omega) (pkN 8 (sN sd) + 2) 0 _ mo (nx (sN sd)) _ r1 (sN_nx _) a1 (by omega)
  refine ⟨τ, fun l b cy D d => ?_, rc, at', fun a ha => ?_⟩
  · refine Ev.of (by decide) (Nat.le_of_ble_eq_true rfl) rfl ?_
    refine g_aload_n (pc' := 1) dX10_drawSquare_0 rfl 1 rfl rfl ?_
    refine g_callv (pc' := 4) dX10_drawSquare_1 rfl mX10_217 (ev_X6_setOne (k := 152) (σ := σ) o152 (d := d)) o152 rfl (rm_ok (by omega) (by decide)) ⟨rfl, rfl⟩ ⟨Nat.zero_le _, Nat.zero_le _⟩ rfl rfl (Nat.le_of_ble_eq_true rfl) ?_
    refine g_aload_n (pc' := 5) dX10_drawSquare_4 rfl 0 rfl rfl ?_
    refine g_bipush (pc' := 7) (v := nI 8) dX10_drawSquare_5 rfl (by decide) ?_
    refine g_callr (pc' := 10) dX10_drawSquare_7 rfl mX10_241 (ev_X10_draw (x1 := nI 8) (σ := sX6_setOne 152 σ) (d := d)) o0 rfl (rm_ok (by omega) (by decide)) ⟨rfl, rfl⟩ ⟨Nat.zero_le _, Nat.zero_le _⟩ rfl rfl (Nat.le_of_ble_eq_true rfl) ?_
    rw [d1, d2]
    refine g_iconst (pc' := 11) (v := nI 2) dX10_drawSquare_10 rfl (by decide) ?_
    refine g_iadd (pc' := 12) dX10_drawSquare_11 rfl ?_
    rw [nI_add]
    refine g_istore_n (pc' := 13) (j := 2) (lv' := [(2, .int (nI (pkN 8 (sN sd) + 2))), (0, .ref (b + 0)), (1, .ref (b + 152))]) dX10_drawSquare_12 rfl rfl (by decide) rfl ?_
    refine g_iconst (pc' := 14) (v := nI 0) dX10_drawSquare_13 rfl (by decide) ?_
    refine g_istore_n (pc' := 15) (j := 3) (lv' := [(3, .int (nI 0)), (2, .int (nI (pkN 8 (sN sd) + 2))), (0, .ref (b + 0)), (1, .ref (b + 152))]) dX10_drawSquare_14 rfl rfl (by decide) rfl ?_
    refine g_sub [2, 3, 1, 0] rfl ?_
    exact g l b cy D d
  · rw [hh a ha]; exact u2k (by omega)
end
