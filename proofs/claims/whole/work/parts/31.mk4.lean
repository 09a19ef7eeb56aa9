def raF (x1 : Int32) (s q n : Nat) : Nat → Sg → Int32 × Sg
  | 0, σ => (rX10_exchange 152 s q n x1 σ, sX10_exchange 152 s q n x1 σ)
  | m + 1, σ => if rX6_isWithinBounds 152 (sX6_setProduct 152 152 150 σ) = true then raF x1 s q n m (sX6_setProduct 152 152 150 σ) else (-1000000003, sX6_setProduct 152 152 150 σ)
set_option maxRecDepth 100000 in
set_option maxHeartbeats 4000000 in
theorem lp_ra {l : Launch} {b : Nat} {cy : Nat → ClassId} {D : va_G} {d : Nat}  {x1 : Int32} {s q n p : Nat}   (q1 : x1 = nI s) (hs : s < 12) (hq : q < 20) (hn : n ≤ 12) (hp : p ≤ 20) : ∀ (m : Nat) (i : Nat) (σ : Sg), i + m = p → σ.1 3 1 = nI q → σ.1 1 1 = nI n → Gs l b cy D (d + 4) yX10_raise cX10_raise (Option.some Jvm.ClassFile.FieldType.int) 4 (some (.int (raF x1 s q n m σ).1)) (raF x1 s q n m σ).2 48 [(0, .ref (b + 0)), (1, .int (x1)), (2, .int (nI p)), (3, .int (nI i))] [] σ := by
  intro m
  induction m with
  | zero =>
    intro i σ hi hx hz
    refine g_iload_n (pc' := 49) dX10_raise_48 rfl 3 rfl rfl ?_
    refine g_iload_n (pc' := 50) dX10_raise_49 rfl 2 rfl rfl ?_
    refine g_icmp_ge (pc' := 53) (tgt := 87) dX10_raise_50 rfl (by decide) (fun (c1 : (nI p : Int32) ≤ (nI i)) => ?_) (fun (c1 : ¬ (nI p : Int32) ≤ (nI i)) => ?_)
    · refine g_aload_n (pc' := 88) dX10_raise_87 rfl 0 rfl rfl ?_
      refine g_iload_n (pc' := 89) dX10_raise_88 rfl 1 rfl rfl ?_
      refine g_aload_n (pc' := 90) dX10_raise_89 rfl 0 rfl rfl ?_
      refine g_getR (pc' := 93) (a := 152) dX10_raise_90 rfl (PLk.lf fX10_60) o0 rfl ?_
      refine g_callr (pc' := 96) dX10_raise_93 rfl mX10_213 (ev_X10_exchange (i := 152) (s := s) (q := q) (n := n) (x1 := x1) (σ := σ) o152 q1 hs hx hq hz hn (d := d)) o0 rfl (rm_ok (by omega) (by decide)) ⟨rfl, rfl⟩ ⟨Nat.zero_le _, Nat.zero_le _⟩ rfl rfl (Nat.le_of_ble_eq_true rfl) ?_
      exact g_iret dX10_raise_96 rfl ⟨rfl, rfl⟩ rfl
    · exact absurd ((nI_leI (a := p) (b := i) (by omega) (by omega)).mpr (by omega)) c1
  | succ m ih =>
    intro i σ hi hx hz
    refine g_iload_n (pc' := 49) dX10_raise_48 rfl 3 rfl rfl ?_
    refine g_iload_n (pc' := 50) dX10_raise_49 rfl 2 rfl rfl ?_
    refine g_icmp_ge (pc' := 53) (tgt := 87) dX10_raise_50 rfl (by decide) (fun (c1 : (nI p : Int32) ≤ (nI i)) => ?_) (fun (c1 : ¬ (nI p : Int32) ≤ (nI i)) => ?_)
    · exact absurd (nle (a := p) (c := i) c1 rfl rfl (by omega) (by omega)) (by omega)
    · refine g_aload_n (pc' := 54) dX10_raise_53 rfl 0 rfl rfl ?_
      refine g_getR (pc' := 57) (a := 152) dX10_raise_54 rfl (PLk.lf fX10_60) o0 rfl ?_
      refine g_aload_n (pc' := 58) dX10_raise_57 rfl 0 rfl rfl ?_
      refine g_getR (pc' := 61) (a := 152) dX10_raise_58 rfl (PLk.lf fX10_60) o0 rfl ?_
      refine g_aload_n (pc' := 62) dX10_raise_61 rfl 0 rfl rfl ?_
      refine g_getR (pc' := 65) (a := 150) dX10_raise_62 rfl (PLk.lf fX10_53) o0 rfl ?_
      refine g_callv (pc' := 68) dX10_raise_65 rfl mX10_206 (ev_X6_setProduct (k := 152) (i := 152) (j := 150) (σ := σ) o152 o152 o150 (d := d + 2)) o152 rfl (rm_ok (by omega) (by decide)) ⟨rfl, rfl⟩ ⟨Nat.zero_le _, Nat.zero_le _⟩ rfl rfl (Nat.le_of_ble_eq_true rfl) ?_
      refine g_aload_n (pc' := 69) dX10_raise_68 rfl 0 rfl rfl ?_
      refine g_getR (pc' := 72) (a := 152) dX10_raise_69 rfl (PLk.lf fX10_60) o0 rfl ?_
      refine g_callr (pc' := 75) dX10_raise_72 rfl mX10_100 (ev_X6_isWithinBounds (k := 152) (σ := sX6_setProduct 152 152 150 σ) o152 (d := d + 2)) o152 rfl (rm_ok (by omega) (by decide)) ⟨rfl, rfl⟩ ⟨Nat.zero_le _, Nat.zero_le _⟩ rfl rfl (Nat.le_of_ble_eq_true rfl) ?_
      refine g_ifb_ne (pc' := 78) (tgt := 81) dX10_raise_75 rfl (by decide) (fun (c2 : (rX6_isWithinBounds 152 (sX6_setProduct 152 152 150 σ)) = true) => ?_) (fun (c2 : (rX6_isWithinBounds 152 (sX6_setProduct 152 152 150 σ)) = false) => ?_)
      · refine g_iinc (pc' := 84) (v := nI (i + 1)) (lv' := [(3, .int (nI (i + 1))), (0, .ref (b + 0)), (1, .int (x1)), (2, .int (nI p))]) dX10_raise_81 rfl 3 rfl (nI_1 i) (by decide) rfl ?_
        refine g_goto (tgt := 48) dX10_raise_84 (by decide) ?_
        rw [show raF x1 s q n (m + 1) σ = raF x1 s q n m (sX6_setProduct 152 152 150 σ) by rw [raF, if_pos c2]]
        refine g_sub [1, 2, 3, 0] rfl ?_
        exact ih (i + 1) _ (by omega) hx hz
      · refine g_ldc (pc' := 80) dX10_raise_78 rfl kX10_106 ?_
        exact g_iret dX10_raise_80 rfl ⟨rfl, rfl⟩ (by rw [raF, if_neg (bf c2)])
def ra0 (s : Nat) (σ : Sg) : Sg := sX6_setOne 152 (ldS 2 150 s σ)
def raR (q n : Nat) (x1 x2 : Int32) (σ : Sg) : Int32 × Sg := if rX5_has 1 2 x1 σ = true then (if x2 < 0 then (-1000000002, σ) else (if x2 ≤ 20 then raF x1 x1.toNatClampNeg q n x2.toNatClampNeg (ra0 x1.toNatClampNeg σ) else (-1000000002, σ))) else (-1000000001, σ)
set_option maxRecDepth 100000 in
set_option maxHeartbeats 4000000 in
theorem ev_X10_raise {l : Launch} {b : Nat} {cy : Nat → ClassId} {D : va_G} {d : Nat}  {x1 : Int32} {x2 : Int32} {q : Nat} {n : Nat} {σ : Sg}  (hx : σ.1 3 1 = nI q) (hq : q < 20) (hz : σ.1 1 1 = nI n) (hn : n ≤ 12) : Es l b cy D (d + 4) yX10_raise cX10_raise (Option.some Jvm.ClassFile.FieldType.int) 4 [.ref (b + 0), .int (x1), .int (x2)] σ (some (.int ((raR q n x1 x2 σ).1))) ((raR q n x1 x2 σ).2) := by
  refine Ev.of (by decide) (Nat.le_of_ble_eq_true rfl) rfl ?_
  refine g_aload_n (pc' := 1) dX10_raise_0 rfl 0 rfl rfl ?_
  refine g_getR (pc' := 4) (a := 1) dX10_raise_1 rfl (PLk.lf fX10_10) o0 rfl ?_
  refine g_iload_n (pc' := 5) dX10_raise_4 rfl 1 rfl rfl ?_
  refine g_callr (pc' := 8) dX10_raise_5 rfl mX10_135 (ev_X5_has (k := 1) (c := 2) (x1 := x1) (σ := σ) sf1 (d := d + 3)) o1 rfl (rm_ok (by omega) (by decide)) ⟨rfl, rfl⟩ ⟨Nat.zero_le _, Nat.zero_le _⟩ rfl rfl (Nat.le_of_ble_eq_true rfl) ?_
  refine g_ifb_ne (pc' := 11) (tgt := 14) dX10_raise_8 rfl (by decide) (fun (c1 : (rX5_has 1 2 x1 σ) = true) => ?_) (fun (c1 : (rX5_has 1 2 x1 σ) = false) => ?_)
  · refine g_iload_n (pc' := 15) dX10_raise_14 rfl 2 rfl rfl ?_
    refine g_if_lt (pc' := 18) (tgt := 24) dX10_raise_15 rfl (by decide) (fun (c2 : (x2 : Int32) < 0) => ?_) (fun (c2 : ¬ (x2 : Int32) < 0) => ?_)
    · refine g_ldc (pc' := 26) dX10_raise_24 rfl kX10_68 ?_
      exact g_iret dX10_raise_26 rfl ⟨rfl, rfl⟩ (by rw [show raR q n x1 x2 σ = (-1000000002, σ) by unfold raR; rw [if_pos c1, if_pos c2]])
    · refine g_iload_n (pc' := 19) dX10_raise_18 rfl 2 rfl rfl ?_
      refine g_bipush (pc' := 21) (v := 20) dX10_raise_19 rfl (by decide) ?_
      refine g_icmp_le (pc' := 24) (tgt := 27) dX10_raise_21 rfl (by decide) (fun (c3 : (x2 : Int32) ≤ 20) => ?_) (fun (c3 : ¬ (x2 : Int32) ≤ 20) => ?_)
      · obtain ⟨q1, h1⟩ := has_t hz hn c1
        have e2 := nI_self c2
        have h2 : x2.toNatClampNeg ≤ 20 := nle (a := x2.toNatClampNeg) (c := 20) c3 e2 rfl (by obtain ⟨j, hj, e⟩ := nI_of c2; rw [e, nI_clamp hj]; exact hj) (by omega)
        refine g_aload_n (pc' := 28) dX10_raise_27 rfl 0 rfl rfl ?_
        refine g_getR (pc' := 31) (a := 1) dX10_raise_28 rfl (PLk.lf fX10_10) o0 rfl ?_
        refine g_iload_n (pc' := 32) dX10_raise_31 rfl 1 rfl rfl ?_
        refine g_aload_n (pc' := 33) dX10_raise_32 rfl 0 rfl rfl ?_
        refine g_getR (pc' := 36) (a := 150) dX10_raise_33 rfl (PLk.lf fX10_53) o0 rfl ?_
        refine g_callv (pc' := 39) dX10_raise_36 rfl mX10_202 (ev_X5_load (k := 1) (c := 2) (i := 150) (x1 := x1) (s := (x1.toNatClampNeg)) (σ := σ) sf1 o150 q1 (by omega) (d := d + 2)) o1 rfl (rm_ok (by omega) (by decide)) ⟨rfl, rfl⟩ ⟨Nat.zero_le _, Nat.zero_le _⟩ rfl rfl (Nat.le_of_ble_eq_true rfl) ?_
        refine g_aload_n (pc' := 40) dX10_raise_39 rfl 0 rfl rfl ?_
        refine g_getR (pc' := 43) (a := 152) dX10_raise_40 rfl (PLk.lf fX10_60) o0 rfl ?_
        refine g_callv (pc' := 46) dX10_raise_43 rfl mX10_217 (ev_X6_setOne (k := 152) (σ := ldS 2 150 (x1.toNatClampNeg) σ) o152 (d := d + 2)) o152 rfl (rm_ok (by omega) (by decide)) ⟨rfl, rfl⟩ ⟨Nat.zero_le _, Nat.zero_le _⟩ rfl rfl (Nat.le_of_ble_eq_true rfl) ?_
        refine g_iconst (pc' := 47) (v := 0) dX10_raise_46 rfl (by decide) ?_
        refine g_istore_n (pc' := 48) (j := 3) (lv' := [(3, .int (0)), (0, .ref (b + 0)), (1, .int (x1)), (2, .int (x2))]) dX10_raise_47 rfl rfl (by decide) rfl ?_
        rw [show raR q n x1 x2 σ = raF x1 x1.toNatClampNeg q n x2.toNatClampNeg (ra0 x1.toNatClampNeg σ) by unfold raR; rw [if_pos c1, if_neg c2, if_pos c3]]
        have g0 := lp_ra (l := l) (b := b) (cy := cy) (D := D) (d := d) q1 (show x1.toNatClampNeg < 12 by omega) hq hn h2 x2.toNatClampNeg 0 (ra0 x1.toNatClampNeg σ) (by omega) hx hz
        rw [← e2] at g0
        refine g_sub [1, 2, 3, 0] rfl ?_
        exact g0
      · refine g_ldc (pc' := 26) dX10_raise_24 rfl kX10_68 ?_
        exact g_iret dX10_raise_26 rfl ⟨rfl, rfl⟩ (by rw [show raR q n x1 x2 σ = (-1000000002, σ) by unfold raR; rw [if_pos c1, if_neg c2, if_neg c3]])
  · refine g_ldc (pc' := 13) dX10_raise_11 rfl kX10_146 ?_
    exact g_iret dX10_raise_13 rfl ⟨rfl, rfl⟩ (by rw [show raR q n x1 x2 σ = (-1000000001, σ) by unfold raR; rw [if_neg (bf c1)]])
def rX10_keep (n : Nat) (x1 : Int32) (σ : Sg) : Int32 := if (x1 : Int32) < 0 then -1000000001 else if (x1 : Int32) < 2 then 1 else -1000000001
def sX10_keep (n : Nat) (x1 : Int32) (σ : Sg) : Sg := if (x1 : Int32) < 0 then σ else if (x1 : Int32) < 2 then sX4_forget (sX1_fill (153 + 3 * (x1.toNatClampNeg)) (153 + 3 * (x1.toNatClampNeg) + 1) (153 + 3 * (x1.toNatClampNeg) + 2) 1 2 n (σ.1 0 9) σ) else σ
set_option maxRecDepth 100000 in
set_option maxHeartbeats 4000000 in
theorem ev_X10_keep {l : Launch} {b : Nat} {cy : Nat → ClassId} {D : va_G} {d : Nat} {n : Nat} {x1 : Int32} {σ : Sg}  (hz : σ.1 1 1 = nI n) (hn : n ≤ 12) : Es l b cy D (d + 3) yX10_keep cX10_keep (Option.some Jvm.ClassFile.FieldType.int) 2 [.ref (b + 0), .int (x1)] σ (some (.int (rX10_keep n x1 σ))) (sX10_keep n x1 σ) := by
  refine Ev.of (by decide) (Nat.le_of_ble_eq_true rfl) rfl ?_
  refine g_iload_n (pc' := 1) dX10_keep_0 rfl 1 rfl rfl ?_
  refine g_if_lt (pc' := 4) (tgt := 9) dX10_keep_1 rfl (by decide) (fun (c1 : (x1 : Int32) < 0) => ?_) (fun (c1 : ¬ (x1 : Int32) < 0) => ?_)
  · refine g_ldc (pc' := 11) dX10_keep_9 rfl kX10_146 ?_
    exact g_iret dX10_keep_11 rfl ⟨rfl, rfl⟩ (by simp only [rX10_keep, sX10_keep, if_pos c1, bI_t, bI_f])
  · refine g_iload_n (pc' := 5) dX10_keep_4 rfl 1 rfl rfl ?_
    refine g_iconst (pc' := 6) (v := 2) dX10_keep_5 rfl (by decide) ?_
    refine g_icmp_lt (pc' := 9) (tgt := 12) dX10_keep_6 rfl (by decide) (fun (c2 : (x1 : Int32) < 2) => ?_) (fun (c2 : ¬ (x1 : Int32) < 2) => ?_)
    · have e1 := nI_self c1
      have h2 : x1.toNatClampNeg < 2 := nlt' (a := x1.toNatClampNeg) (c := 2) c2 e1 rfl (by obtain ⟨j, hj, e⟩ := nI_of c1; rw [e, nI_clamp hj]; exact hj) (by omega)
      refine g_aload_n (pc' := 13) dX10_keep_12 rfl 0 rfl rfl ?_
      refine g_getR (pc' := 16) (a := 149) dX10_keep_13 rfl (PLk.lf fX10_46) o0 rfl ?_
      refine g_iload_n (pc' := 17) dX10_keep_16 rfl 1 rfl rfl ?_
      refine g_aald (pc' := 18) (j := (x1.toNatClampNeg)) (a := (153 + 3 * (x1.toNatClampNeg))) dX10_keep_17 rfl o149 (by decide) rfl (by decide) e1 h2 (ai _ h2) ?_
      refine g_aload_n (pc' := 19) dX10_keep_18 rfl 0 rfl rfl ?_
      refine g_getR (pc' := 22) (a := 1) dX10_keep_19 rfl (PLk.lf fX10_10) o0 rfl ?_
      refine g_aload_n (pc' := 23) dX10_keep_22 rfl 0 rfl rfl ?_
      refine g_getI (pc' := 26) dX10_keep_23 rfl (PLk.lf fX10_63) o0 rfl ?_
      refine g_callv (pc' := 29) dX10_keep_26 rfl mX10_273 (ev_X1_fill (k := (153 + 3 * (x1.toNatClampNeg))) (f := (153 + 3 * (x1.toNatClampNeg) + 1)) (c := (153 + 3 * (x1.toNatClampNeg) + 2)) (i := 1) (c2 := 2) (n := n) (x2 := σ.1 0 9) (σ := σ) (imN _ h2) sf1 hz hn (d := d)) (imN _ h2).1 rfl (rm_ok (by omega) (by decide)) ⟨rfl, rfl⟩ ⟨Nat.zero_le _, Nat.zero_le _⟩ rfl rfl (Nat.le_of_ble_eq_true rfl) ?_
      refine g_aload_n (pc' := 30) dX10_keep_29 rfl 0 rfl rfl ?_
      refine g_getR (pc' := 33) (a := 3) dX10_keep_30 rfl (PLk.lf fX10_19) o0 rfl ?_
      refine g_callv (pc' := 36) dX10_keep_33 rfl mX10_277 (ev_X4_forget  (σ := sX1_fill (153 + 3 * (x1.toNatClampNeg)) (153 + 3 * (x1.toNatClampNeg) + 1) (153 + 3 * (x1.toNatClampNeg) + 2) 1 2 n (σ.1 0 9) σ)  (d := d + 2)) o3 rfl (rm_ok (by omega) (by decide)) ⟨rfl, rfl⟩ ⟨Nat.zero_le _, Nat.zero_le _⟩ rfl rfl (Nat.le_of_ble_eq_true rfl) ?_
      refine g_iconst (pc' := 37) (v := 1) dX10_keep_36 rfl (by decide) ?_
      exact g_iret dX10_keep_37 rfl ⟨rfl, rfl⟩ (by simp only [rX10_keep, sX10_keep, if_neg c1, if_pos c2, bI_t, bI_f])
    · refine g_ldc (pc' := 11) dX10_keep_9 rfl kX10_146 ?_
      exact g_iret dX10_keep_11 rfl ⟨rfl, rfl⟩ (by simp only [rX10_keep, sX10_keep, if_neg c1, if_neg c2, bI_t, bI_f])
def rX10_goBack  (x1 : Int32) (σ : Sg) : Int32 := if (x1 : Int32) < 0 then -1000000001 else if (x1 : Int32) < 2 then if (σ.1 (153 + 3 * (x1.toNatClampNeg)) 2 : Int32) = 0 then -1000000003 else 1 else -1000000001
def sX10_goBack  (x1 : Int32) (σ : Sg) : Sg := if (x1 : Int32) < 0 then σ else if (x1 : Int32) < 2 then if (σ.1 (153 + 3 * (x1.toNatClampNeg)) 2 : Int32) = 0 then σ else sX4_forget (u2 ((cfS 1 2 (153 + 3 * (x1.toNatClampNeg) + 1) (153 + 3 * (x1.toNatClampNeg) + 2) (sz σ (153 + 3 * (x1.toNatClampNeg) + 1)) σ).1) 0 9 (rX1_seedThen (153 + 3 * (x1.toNatClampNeg)) (153 + 3 * (x1.toNatClampNeg) + 1) (153 + 3 * (x1.toNatClampNeg) + 2) (cfS 1 2 (153 + 3 * (x1.toNatClampNeg) + 1) (153 + 3 * (x1.toNatClampNeg) + 2) (sz σ (153 + 3 * (x1.toNatClampNeg) + 1)) σ)), (cfS 1 2 (153 + 3 * (x1.toNatClampNeg) + 1) (153 + 3 * (x1.toNatClampNeg) + 2) (sz σ (153 + 3 * (x1.toNatClampNeg) + 1)) σ).2) else σ
set_option maxRecDepth 100000 in
set_option maxHeartbeats 4000000 in
theorem ev_X10_goBack {l : Launch} {b : Nat} {cy : Nat → ClassId} {D : va_G} {d : Nat}  {x1 : Int32} {σ : Sg}  (hk : ∀ i, i < 2 → (σ.1 (153 + 3 * i) 2 = 0 ∨ σ.1 (153 + 3 * i) 2 = 1)) (hi : ∀ i, i < 2 → SzOk σ (153 + 3 * i + 1)) : Es l b cy D (d + 2) yX10_goBack cX10_goBack (Option.some Jvm.ClassFile.FieldType.int) 2 [.ref (b + 0), .int (x1)] σ (some (.int (rX10_goBack x1 σ))) (sX10_goBack x1 σ) := by
  refine Ev.of (by decide) (Nat.le_of_ble_eq_true rfl) rfl ?_
  refine g_iload_n (pc' := 1) dX10_goBack_0 rfl 1 rfl rfl ?_
  refine g_if_lt (pc' := 4) (tgt := 9) dX10_goBack_1 rfl (by decide) (fun (c1 : (x1 : Int32) < 0) => ?_) (fun (c1 : ¬ (x1 : Int32) < 0) => ?_)
  · refine g_ldc (pc' := 11) dX10_goBack_9 rfl kX10_146 ?_
    exact g_iret dX10_goBack_11 rfl ⟨rfl, rfl⟩ (by simp only [rX10_goBack, sX10_goBack, if_pos c1, bI_t, bI_f])
  · refine g_iload_n (pc' := 5) dX10_goBack_4 rfl 1 rfl rfl ?_
    refine g_iconst (pc' := 6) (v := 2) dX10_goBack_5 rfl (by decide) ?_
    refine g_icmp_lt (pc' := 9) (tgt := 12) dX10_goBack_6 rfl (by decide) (fun (c2 : (x1 : Int32) < 2) => ?_) (fun (c2 : ¬ (x1 : Int32) < 2) => ?_)
    · have e1 := nI_self c1
      have h2 : x1.toNatClampNeg < 2 := nlt' (a := x1.toNatClampNeg) (c := 2) c2 e1 rfl (by obtain ⟨j, hj, e⟩ := nI_of c1; rw [e, nI_clamp hj]; exact hj) (by omega)
      refine g_aload_n (pc' := 13) dX10_goBack_12 rfl 0 rfl rfl ?_
      refine g_getR (pc' := 16) (a := 149) dX10_goBack_13 rfl (PLk.lf fX10_46) o0 rfl ?_
      refine g_iload_n (pc' := 17) dX10_goBack_16 rfl 1 rfl rfl ?_
      refine g_aald (pc' := 18) (j := (x1.toNatClampNeg)) (a := (153 + 3 * (x1.toNatClampNeg))) dX10_goBack_17 rfl o149 (by decide) rfl (by decide) e1 h2 (ai _ h2) ?_
      refine g_callr (pc' := 21) dX10_goBack_18 rfl mX10_280 (ev_X1_isKept (k := (153 + 3 * (x1.toNatClampNeg))) (f := (153 + 3 * (x1.toNatClampNeg) + 1)) (c := (153 + 3 * (x1.toNatClampNeg) + 2)) (σ := σ) (imN _ h2) (hk _ h2) (d := d + 1)) (imN _ h2).1 rfl (rm_ok (by omega) (by decide)) ⟨rfl, rfl⟩ ⟨Nat.zero_le _, Nat.zero_le _⟩ rfl rfl (Nat.le_of_ble_eq_true rfl) ?_
      refine g_if_ne (pc' := 24) (tgt := 27) dX10_goBack_21 rfl (by decide) (fun (c3 : ¬ (σ.1 (153 + 3 * (x1.toNatClampNeg)) 2 : Int32) = 0) => ?_) (fun (c3 : (σ.1 (153 + 3 * (x1.toNatClampNeg)) 2 : Int32) = 0) => ?_)
      · refine g_aload_n (pc' := 28) dX10_goBack_27 rfl 0 rfl rfl ?_
        refine g_getR (pc' := 31) (a := 1) dX10_goBack_28 rfl (PLk.lf fX10_10) o0 rfl ?_
        refine g_aload_n (pc' := 32) dX10_goBack_31 rfl 0 rfl rfl ?_
        refine g_getR (pc' := 35) (a := 149) dX10_goBack_32 rfl (PLk.lf fX10_46) o0 rfl ?_
        refine g_iload_n (pc' := 36) dX10_goBack_35 rfl 1 rfl rfl ?_
        refine g_aald (pc' := 37) (j := (x1.toNatClampNeg)) (a := (153 + 3 * (x1.toNatClampNeg))) dX10_goBack_36 rfl o149 (by decide) rfl (by decide) e1 h2 (ai _ h2) ?_
        refine g_callr (pc' := 40) dX10_goBack_37 rfl mX10_283 (ev_X1_shelf (k := (153 + 3 * (x1.toNatClampNeg))) (f := (153 + 3 * (x1.toNatClampNeg) + 1)) (c := (153 + 3 * (x1.toNatClampNeg) + 2)) (σ := σ) (imN _ h2) (d := d + 1)) (imN _ h2).1 rfl (rm_ok (by omega) (by decide)) ⟨rfl, rfl⟩ ⟨Nat.zero_le _, Nat.zero_le _⟩ rfl rfl (Nat.le_of_ble_eq_true rfl) ?_
        refine g_callv (pc' := 43) dX10_goBack_40 rfl mX10_286 (ev_X5_copyFrom (k := 1) (c := 2) (i := (153 + 3 * (x1.toNatClampNeg) + 1)) (c2 := (153 + 3 * (x1.toNatClampNeg) + 2)) (n := sz σ (153 + 3 * (x1.toNatClampNeg) + 1)) (σ := σ) sf1 (imN _ h2).2 (hi _ h2).1 (hi _ h2).2 (d := d)) o1 rfl (rm_ok (by omega) (by decide)) ⟨rfl, rfl⟩ ⟨Nat.zero_le _, Nat.zero_le _⟩ rfl rfl (Nat.le_of_ble_eq_true rfl) ?_
        refine g_aload_n (pc' := 44) dX10_goBack_43 rfl 0 rfl rfl ?_
        refine g_aload_n (pc' := 45) dX10_goBack_44 rfl 0 rfl rfl ?_
        refine g_getR (pc' := 48) (a := 149) dX10_goBack_45 rfl (PLk.lf fX10_46) o0 rfl ?_
        refine g_iload_n (pc' := 49) dX10_goBack_48 rfl 1 rfl rfl ?_
        refine g_aald (pc' := 50) (j := (x1.toNatClampNeg)) (a := (153 + 3 * (x1.toNatClampNeg))) dX10_goBack_49 rfl o149 (by decide) rfl (by decide) e1 h2 (ai _ h2) ?_
        refine g_callr (pc' := 53) dX10_goBack_50 rfl mX10_289 (ev_X1_seedThen (k := (153 + 3 * (x1.toNatClampNeg))) (f := (153 + 3 * (x1.toNatClampNeg) + 1)) (c := (153 + 3 * (x1.toNatClampNeg) + 2)) (σ := cfS 1 2 (153 + 3 * (x1.toNatClampNeg) + 1) (153 + 3 * (x1.toNatClampNeg) + 2) (sz σ (153 + 3 * (x1.toNatClampNeg) + 1)) σ) (imN _ h2) (d := d + 1)) (imN _ h2).1 rfl (rm_ok (by omega) (by decide)) ⟨rfl, rfl⟩ ⟨Nat.zero_le _, Nat.zero_le _⟩ rfl rfl (Nat.le_of_ble_eq_true rfl) ?_
        refine g_putI (pc' := 56) dX10_goBack_53 rfl fX10_63 o0 rfl ?_
        refine g_aload_n (pc' := 57) dX10_goBack_56 rfl 0 rfl rfl ?_
        refine g_getR (pc' := 60) (a := 3) dX10_goBack_57 rfl (PLk.lf fX10_19) o0 rfl ?_
        refine g_callv (pc' := 63) dX10_goBack_60 rfl mX10_277 (ev_X4_forget  (σ := (u2 ((cfS 1 2 (153 + 3 * (x1.toNatClampNeg) + 1) (153 + 3 * (x1.toNatClampNeg) + 2) (sz σ (153 + 3 * (x1.toNatClampNeg) + 1)) σ).1) 0 9 (rX1_seedThen (153 + 3 * (x1.toNatClampNeg)) (153 + 3 * (x1.toNatClampNeg) + 1) (153 + 3 * (x1.toNatClampNeg) + 2) (cfS 1 2 (153 + 3 * (x1.toNatClampNeg) + 1) (153 + 3 * (x1.toNatClampNeg) + 2) (sz σ (153 + 3 * (x1.toNatClampNeg) + 1)) σ)), (cfS 1 2 (153 + 3 * (x1.toNatClampNeg) + 1) (153 + 3 * (x1.toNatClampNeg) + 2) (sz σ (153 + 3 * (x1.toNatClampNeg) + 1)) σ).2))  (d := d + 1)) o3 rfl (rm_ok (by omega) (by decide)) ⟨rfl, rfl⟩ ⟨Nat.zero_le _, Nat.zero_le _⟩ rfl rfl (Nat.le_of_ble_eq_true rfl) ?_
        refine g_iconst (pc' := 64) (v := 1) dX10_goBack_63 rfl (by decide) ?_
        exact g_iret dX10_goBack_64 rfl ⟨rfl, rfl⟩ (by simp only [rX10_goBack, sX10_goBack, if_neg c1, if_pos c2, if_neg c3, bI_t, bI_f])
      · refine g_ldc (pc' := 26) dX10_goBack_24 rfl kX10_106 ?_
        exact g_iret dX10_goBack_26 rfl ⟨rfl, rfl⟩ (by simp only [rX10_goBack, sX10_goBack, if_neg c1, if_pos c2, if_pos c3, bI_t, bI_f])
    · refine g_ldc (pc' := 11) dX10_goBack_9 rfl kX10_146 ?_
      exact g_iret dX10_goBack_11 rfl ⟨rfl, rfl⟩ (by simp only [rX10_goBack, sX10_goBack, if_neg c1, if_neg c2, bI_t, bI_f])
theorem lt_of1 {x : Int32} (h : ¬ x < 1) : ¬ x < 0 := fun z => h (by
  rw [Int32.lt_iff_toInt_lt] at *
  have q0 : (1 : Int32).toInt = 1 := by decide
  have q9 : (0 : Int32).toInt = 0 := by decide
  omega)
def rX10_undo (q : Nat) (x1 : Int32) (σ : Sg) : Int32 := if (x1 : Int32) < 1 then -1000000002 else if (x1 : Int32) ≤ 20 then if (x1 : Int32) ≤ (rX4_length σ) then rX5_size 1 2 (sX4_restore 1 2 q (x1.toNatClampNeg) (sz σ (5 + 2 * ((q + 20 - x1.toNatClampNeg) % 20))) x1 σ) else -1000000003 else -1000000002
def sX10_undo (q : Nat) (x1 : Int32) (σ : Sg) : Sg := if (x1 : Int32) < 1 then σ else if (x1 : Int32) ≤ 20 then if (x1 : Int32) ≤ (rX4_length σ) then sX4_restore 1 2 q (x1.toNatClampNeg) (sz σ (5 + 2 * ((q + 20 - x1.toNatClampNeg) % 20))) x1 σ else σ else σ
set_option maxRecDepth 100000 in
set_option maxHeartbeats 4000000 in
theorem ev_X10_undo {l : Launch} {b : Nat} {cy : Nat → ClassId} {D : va_G} {d : Nat} {q : Nat} {x1 : Int32} {σ : Sg}  (hx : σ.1 3 1 = nI q) (hq : q < 20) (hr : ∀ j, j < 20 → SzOk σ (5 + 2 * j)) : Es l b cy D (d + 3) yX10_undo cX10_undo (Option.some Jvm.ClassFile.FieldType.int) 2 [.ref (b + 0), .int (x1)] σ (some (.int (rX10_undo q x1 σ))) (sX10_undo q x1 σ) := by
  refine Ev.of (by decide) (Nat.le_of_ble_eq_true rfl) rfl ?_
  refine g_iload_n (pc' := 1) dX10_undo_0 rfl 1 rfl rfl ?_
  refine g_iconst (pc' := 2) (v := 1) dX10_undo_1 rfl (by decide) ?_
  refine g_icmp_lt (pc' := 5) (tgt := 11) dX10_undo_2 rfl (by decide) (fun (c1 : (x1 : Int32) < 1) => ?_) (fun (c1 : ¬ (x1 : Int32) < 1) => ?_)
  · refine g_ldc (pc' := 13) dX10_undo_11 rfl kX10_68 ?_
    exact g_iret dX10_undo_13 rfl ⟨rfl, rfl⟩ (by simp only [rX10_undo, sX10_undo, if_pos c1, bI_t, bI_f])
  · refine g_iload_n (pc' := 6) dX10_undo_5 rfl 1 rfl rfl ?_
    refine g_bipush (pc' := 8) (v := 20) dX10_undo_6 rfl (by decide) ?_
    refine g_icmp_le (pc' := 11) (tgt := 14) dX10_undo_8 rfl (by decide) (fun (c2 : (x1 : Int32) ≤ 20) => ?_) (fun (c2 : ¬ (x1 : Int32) ≤ 20) => ?_)
    · refine g_iload_n (pc' := 15) dX10_undo_14 rfl 1 rfl rfl ?_
      refine g_aload_n (pc' := 16) dX10_undo_15 rfl 0 rfl rfl ?_
      refine g_getR (pc' := 19) (a := 3) dX10_undo_16 rfl (PLk.lf fX10_19) o0 rfl ?_
      refine g_callr (pc' := 22) dX10_undo_19 rfl mX10_127 (ev_X4_length  (σ := σ)  (d := d + 2)) o3 rfl (rm_ok (by omega) (by decide)) ⟨rfl, rfl⟩ ⟨Nat.zero_le _, Nat.zero_le _⟩ rfl rfl (Nat.le_of_ble_eq_true rfl) ?_
      refine g_icmp_le (pc' := 25) (tgt := 28) dX10_undo_22 rfl (by decide) (fun (c3 : (x1 : Int32) ≤ (rX4_length σ)) => ?_) (fun (c3 : ¬ (x1 : Int32) ≤ (rX4_length σ)) => ?_)
      · have p0 := lt_of1 c1
        have e1 := nI_self p0
        have h2 : x1.toNatClampNeg ≤ 20 := nle (a := x1.toNatClampNeg) (c := 20) c2 e1 rfl (by obtain ⟨j, hj, e⟩ := nI_of p0; rw [e, nI_clamp hj]; exact hj) (by omega)
        refine g_aload_n (pc' := 29) dX10_undo_28 rfl 0 rfl rfl ?_
        refine g_getR (pc' := 32) (a := 3) dX10_undo_29 rfl (PLk.lf fX10_19) o0 rfl ?_
        refine g_iload_n (pc' := 33) dX10_undo_32 rfl 1 rfl rfl ?_
        refine g_aload_n (pc' := 34) dX10_undo_33 rfl 0 rfl rfl ?_
        refine g_getR (pc' := 37) (a := 1) dX10_undo_34 rfl (PLk.lf fX10_10) o0 rfl ?_
        refine g_callv (pc' := 40) dX10_undo_37 rfl mX10_230 (ev_X4_restore (i := 1) (c2 := 2) (q := q) (dd := (x1.toNatClampNeg)) (n := sz σ (5 + 2 * ((q + 20 - x1.toNatClampNeg) % 20))) (x1 := x1) (σ := σ) sf1 e1 h2 hx hq (hr _ (Nat.mod_lt _ (by decide))).1 (hr _ (Nat.mod_lt _ (by decide))).2 (d := d)) o3 rfl (rm_ok (by omega) (by decide)) ⟨rfl, rfl⟩ ⟨Nat.zero_le _, Nat.zero_le _⟩ rfl rfl (Nat.le_of_ble_eq_true rfl) ?_
        refine g_aload_n (pc' := 41) dX10_undo_40 rfl 0 rfl rfl ?_
        refine g_getR (pc' := 44) (a := 1) dX10_undo_41 rfl (PLk.lf fX10_10) o0 rfl ?_
        refine g_callr (pc' := 47) dX10_undo_44 rfl mX10_107 (ev_X5_size (k := 1) (c := 2) (σ := sX4_restore 1 2 q (x1.toNatClampNeg) (sz σ (5 + 2 * ((q + 20 - x1.toNatClampNeg) % 20))) x1 σ) sf1 (d := d + 2)) o1 rfl (rm_ok (by omega) (by decide)) ⟨rfl, rfl⟩ ⟨Nat.zero_le _, Nat.zero_le _⟩ rfl rfl (Nat.le_of_ble_eq_true rfl) ?_
        exact g_iret dX10_undo_47 rfl ⟨rfl, rfl⟩ (by simp only [rX10_undo, sX10_undo, if_neg c1, if_pos c2, if_pos c3, bI_t, bI_f])
      · refine g_ldc (pc' := 27) dX10_undo_25 rfl kX10_106 ?_
        exact g_iret dX10_undo_27 rfl ⟨rfl, rfl⟩ (by simp only [rX10_undo, sX10_undo, if_neg c1, if_pos c2, if_neg c3, bI_t, bI_f])
    · refine g_ldc (pc' := 13) dX10_undo_11 rfl kX10_68 ?_
      exact g_iret dX10_undo_13 rfl ⟨rfl, rfl⟩ (by simp only [rX10_undo, sX10_undo, if_neg c1, if_neg c2, bI_t, bI_f])
def rX10_draw  (x1 : Int32) (σ : Sg) : Int32 := if (x1 : Int32) ≤ 0 then 0 else (((u2 σ.1 0 9 ((((((σ.1 0 9 : Int32).toInt64) * 1103515245) + 12345) &&& 2147483647 : Int64).toInt32)) 0 9) / 65536) - (((u2 σ.1 0 9 ((((((σ.1 0 9 : Int32).toInt64) * 1103515245) + 12345) &&& 2147483647 : Int64).toInt32)) 0 9) / 65536) / x1 * x1
def sX10_draw  (x1 : Int32) (σ : Sg) : Sg := if (x1 : Int32) ≤ 0 then (u2 σ.1 0 9 ((((((σ.1 0 9 : Int32).toInt64) * 1103515245) + 12345) &&& 2147483647 : Int64).toInt32), σ.2) else (u2 σ.1 0 9 ((((((σ.1 0 9 : Int32).toInt64) * 1103515245) + 12345) &&& 2147483647 : Int64).toInt32), σ.2)
set_option maxRecDepth 100000 in
set_option maxHeartbeats 4000000 in
theorem ev_X10_draw {l : Launch} {b : Nat} {cy : Nat → ClassId} {D : va_G} {d : Nat}  {x1 : Int32} {σ : Sg}   : Es l b cy D (d + 0) yX10_draw cX10_draw (Option.some Jvm.ClassFile.FieldType.int) 4 [.ref (b + 0), .int (x1)] σ (some (.int (rX10_draw x1 σ))) (sX10_draw x1 σ) := by
  refine Ev.of (by decide) (Nat.le_of_ble_eq_true rfl) rfl ?_
  refine g_aload_n (pc' := 1) dX10_draw_0 rfl 0 rfl rfl ?_
  refine g_getI (pc' := 4) dX10_draw_1 rfl (PLk.lf fX10_63) o0 rfl ?_
  refine g_i2l (pc' := 5) dX10_draw_4 rfl ?_
  refine g_ldc2 (pc' := 8) dX10_draw_5 rfl kX10_255 ?_
  refine g_lmul (pc' := 9) dX10_draw_8 rfl ?_
  refine g_ldc2 (pc' := 12) dX10_draw_9 rfl kX10_257 ?_
  refine g_ladd (pc' := 13) dX10_draw_12 rfl ?_
  refine g_lstore_n (pc' := 14) (j := 2) (lv' := [(2, .long ((((σ.1 0 9 : Int32).toInt64) * 1103515245) + 12345)), (0, .ref (b + 0)), (1, .int (x1))]) dX10_draw_13 rfl rfl (by decide) rfl ?_
  refine g_aload_n (pc' := 15) dX10_draw_14 rfl 1 rfl rfl ?_
  refine g_lload_n (pc' := 16) dX10_draw_15 rfl 0 rfl rfl ?_
  refine g_ldc2 (pc' := 19) dX10_draw_16 rfl kX10_259 ?_
  refine g_land (pc' := 20) dX10_draw_19 rfl ?_
  refine g_l2i (pc' := 21) dX10_draw_20 rfl ?_
  refine g_putI (pc' := 24) dX10_draw_21 rfl fX10_63 o0 rfl ?_
  refine g_iload_n (pc' := 25) dX10_draw_24 rfl 2 rfl rfl ?_
  refine g_if_le (pc' := 28) (tgt := 41) dX10_draw_25 rfl (by decide) (fun (c1 : (x1 : Int32) ≤ 0) => ?_) (fun (c1 : ¬ (x1 : Int32) ≤ 0) => ?_)
  · refine g_iconst (pc' := 42) (v := 0) dX10_draw_41 rfl (by decide) ?_
    exact g_iret dX10_draw_42 rfl ⟨rfl, rfl⟩ (by simp only [rX10_draw, sX10_draw, if_pos c1, bI_t, bI_f])
  · refine g_aload_n (pc' := 29) dX10_draw_28 rfl 1 rfl rfl ?_
    refine g_getI (pc' := 32) dX10_draw_29 rfl (PLk.lf fX10_63) o0 rfl ?_
    refine g_ldcw (pc' := 35) dX10_draw_32 rfl kX10_261 ?_
    refine g_idiv (pc' := 36) dX10_draw_35 rfl (by decide) ?_
    refine g_iload_n (pc' := 37) dX10_draw_36 rfl 2 rfl rfl ?_
    refine g_irem (pc' := 38) dX10_draw_37 rfl (fun z => c1 (by rw [z]; decide)) ?_
    refine g_goto (tgt := 42) dX10_draw_38 (by decide) ?_
    exact g_iret dX10_draw_42 rfl ⟨rfl, rfl⟩ (by simp only [rX10_draw, sX10_draw, if_neg c1, bI_t, bI_f])
