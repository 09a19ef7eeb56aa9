noncomputable section
def rsS (s : Nat) (σ : Sg) : Sg := sX11_multiplies (σ.1 160 (1 + 4 * s)).toInt64 (σ.1 160 (2 + 4 * s)).toInt64 (σ.1 160 (3 + 4 * s)).toInt64 (σ.1 160 (4 + 4 * s)).toInt64 σ
def rsF (s : Nat) : Nat → Sg → Sg
  | 0, σ => σ
  | m + 1, σ => if rX11_isWell σ = true then rsF s m (rsS s σ) else σ
theorem rsF_1 {s : Nat} : ∀ (m : Nat) (σ : Sg), (rsF s m σ).1 = σ.1 := by
  intro m
  induction m with
  | zero => intro σ; rfl
  | succ m ih =>
    intro σ
    rw [rsF]
    split
    · exact ih _
    · rfl
set_option maxRecDepth 100000 in
set_option maxHeartbeats 4000000 in
theorem lp_rs {l : Launch} {b : Nat} {cy : Nat → ClassId} {D : va_G} {d : Nat}  {x1 : Int32} {x2 : Int32} {t s p : Nat}   (htt : t ≤ 20) (q1 : x1 = nI s) (hs : s < 12) (q2 : x2 = nI p) (hp : p ≤ 20) : ∀ (m : Nat) (k : Nat) (σ : Sg), k + m = p → σ.1 159 2 = nI t → Gs l b cy D (d + 4) yX11_raise cX11_raise (Option.some Jvm.ClassFile.FieldType.int) 4 (some (.int (rX11_becomes t s x1 (rsF s m σ)))) (sX11_becomes t s x1 (rsF s m σ)) 36 [(0, .ref (b + 159)), (1, .int (x1)), (2, .int (x2)), (3, .int (nI k))] [] σ := by
  intro m
  induction m with
  | zero =>
    intro k σ hk hu
    refine g_iload_n (pc' := 37) dX11_raise_36 rfl 3 rfl rfl ?_
    refine g_iload_n (pc' := 38) dX11_raise_37 rfl 2 rfl rfl ?_
    refine g_icmp_ge (pc' := 41) (tgt := 102) dX11_raise_38 rfl (by decide) (fun (c1 : (x2 : Int32) ≤ (nI k)) => ?_) (fun (c1 : ¬ (x2 : Int32) ≤ (nI k)) => ?_)
    · refine g_aload_n (pc' := 103) dX11_raise_102 rfl 0 rfl rfl ?_
      refine g_iload_n (pc' := 104) dX11_raise_103 rfl 1 rfl rfl ?_
      refine g_callr (pc' := 107) dX11_raise_104 rfl mX11_270 (ev_X11_becomes (t := t) (s := s) (x1 := x1) (σ := σ) hu htt q1 hs (d := d)) o159 rfl (rm_ok (by omega) (by decide)) ⟨rfl, rfl⟩ ⟨Nat.zero_le _, Nat.zero_le _⟩ rfl rfl (Nat.le_of_ble_eq_true rfl) ?_
      exact g_iret dX11_raise_107 rfl ⟨rfl, rfl⟩ rfl
    · exact absurd (by rw [q2]; exact (nI_leI (by omega) (by omega)).mpr (by omega)) c1
  | succ m ih =>
    intro k σ hk hu
    refine g_iload_n (pc' := 37) dX11_raise_36 rfl 3 rfl rfl ?_
    refine g_iload_n (pc' := 38) dX11_raise_37 rfl 2 rfl rfl ?_
    refine g_icmp_ge (pc' := 41) (tgt := 102) dX11_raise_38 rfl (by decide) (fun (c1 : (x2 : Int32) ≤ (nI k)) => ?_) (fun (c1 : ¬ (x2 : Int32) ≤ (nI k)) => ?_)
    · exact absurd (nle (a := p) (c := k) c1 q2 rfl (by omega) (by omega)) (by omega)
    · refine g_aload_n (pc' := 42) dX11_raise_41 rfl 0 rfl rfl ?_
      refine g_callr (pc' := 45) dX11_raise_42 rfl mX11_107 (ev_X11_isWell  (σ := σ)  (d := d + 1)) o159 rfl (rm_ok (by omega) (by decide)) ⟨rfl, rfl⟩ ⟨Nat.zero_le _, Nat.zero_le _⟩ rfl rfl (Nat.le_of_ble_eq_true rfl) ?_
      refine g_ifb_eq (pc' := 48) (tgt := 102) dX11_raise_45 rfl (by decide) (fun (c2 : (rX11_isWell σ) = false) => ?_) (fun (c2 : (rX11_isWell σ) = true) => ?_)
      · refine g_aload_n (pc' := 103) dX11_raise_102 rfl 0 rfl rfl ?_
        refine g_iload_n (pc' := 104) dX11_raise_103 rfl 1 rfl rfl ?_
        refine g_callr (pc' := 107) dX11_raise_104 rfl mX11_270 (ev_X11_becomes (t := t) (s := s) (x1 := x1) (σ := σ) hu htt q1 hs (d := d)) o159 rfl (rm_ok (by omega) (by decide)) ⟨rfl, rfl⟩ ⟨Nat.zero_le _, Nat.zero_le _⟩ rfl rfl (Nat.le_of_ble_eq_true rfl) ?_
        exact g_iret dX11_raise_107 rfl ⟨rfl, rfl⟩ (by rw [rsF, if_neg (bf c2)])
      · refine g_aload_n (pc' := 49) dX11_raise_48 rfl 0 rfl rfl ?_
        refine g_aload_n (pc' := 50) dX11_raise_49 rfl 0 rfl rfl ?_
        refine g_getR (pc' := 53) (a := 160) dX11_raise_50 rfl (PLk.lf fX11_7) o159 rfl ?_
        refine g_iconst (pc' := 54) (v := 1) dX11_raise_53 rfl (by decide) ?_
        refine g_iconst (pc' := 55) (v := 4) dX11_raise_54 rfl (by decide) ?_
        refine g_iload_n (pc' := 56) dX11_raise_55 rfl 1 rfl rfl ?_
        refine g_imul (pc' := 57) dX11_raise_56 rfl ?_
        refine g_iadd (pc' := 58) dX11_raise_57 rfl ?_
        refine g_iald (pc' := 59) (j := (1 + 4 * s)) dX11_raise_58 rfl o160 (by decide) (i14y (c := 1) q1) (by omega) ?_
        refine g_i2l (pc' := 60) dX11_raise_59 rfl ?_
        refine g_aload_n (pc' := 61) dX11_raise_60 rfl 0 rfl rfl ?_
        refine g_getR (pc' := 64) (a := 160) dX11_raise_61 rfl (PLk.lf fX11_7) o159 rfl ?_
        refine g_iconst (pc' := 65) (v := 2) dX11_raise_64 rfl (by decide) ?_
        refine g_iconst (pc' := 66) (v := 4) dX11_raise_65 rfl (by decide) ?_
        refine g_iload_n (pc' := 67) dX11_raise_66 rfl 1 rfl rfl ?_
        refine g_imul (pc' := 68) dX11_raise_67 rfl ?_
        refine g_iadd (pc' := 69) dX11_raise_68 rfl ?_
        refine g_iald (pc' := 70) (j := (2 + 4 * s)) dX11_raise_69 rfl o160 (by decide) (i14y (c := 2) q1) (by omega) ?_
        refine g_i2l (pc' := 71) dX11_raise_70 rfl ?_
        refine g_aload_n (pc' := 72) dX11_raise_71 rfl 0 rfl rfl ?_
        refine g_getR (pc' := 75) (a := 160) dX11_raise_72 rfl (PLk.lf fX11_7) o159 rfl ?_
        refine g_iconst (pc' := 76) (v := 3) dX11_raise_75 rfl (by decide) ?_
        refine g_iconst (pc' := 77) (v := 4) dX11_raise_76 rfl (by decide) ?_
        refine g_iload_n (pc' := 78) dX11_raise_77 rfl 1 rfl rfl ?_
        refine g_imul (pc' := 79) dX11_raise_78 rfl ?_
        refine g_iadd (pc' := 80) dX11_raise_79 rfl ?_
        refine g_iald (pc' := 81) (j := (3 + 4 * s)) dX11_raise_80 rfl o160 (by decide) (i14y (c := 3) q1) (by omega) ?_
        refine g_i2l (pc' := 82) dX11_raise_81 rfl ?_
        refine g_aload_n (pc' := 83) dX11_raise_82 rfl 0 rfl rfl ?_
        refine g_getR (pc' := 86) (a := 160) dX11_raise_83 rfl (PLk.lf fX11_7) o159 rfl ?_
        refine g_iconst (pc' := 87) (v := 4) dX11_raise_86 rfl (by decide) ?_
        refine g_iconst (pc' := 88) (v := 4) dX11_raise_87 rfl (by decide) ?_
        refine g_iload_n (pc' := 89) dX11_raise_88 rfl 1 rfl rfl ?_
        refine g_imul (pc' := 90) dX11_raise_89 rfl ?_
        refine g_iadd (pc' := 91) dX11_raise_90 rfl ?_
        refine g_iald (pc' := 92) (j := (4 + 4 * s)) dX11_raise_91 rfl o160 (by decide) (i14y (c := 4) q1) (by omega) ?_
        refine g_i2l (pc' := 93) dX11_raise_92 rfl ?_
        refine g_callv (pc' := 96) dX11_raise_93 rfl mX11_78 (ev_X11_multiplies (x1 := (σ.1 160 (1 + 4 * s) : Int32).toInt64) (x2 := (σ.1 160 (2 + 4 * s) : Int32).toInt64) (x3 := (σ.1 160 (3 + 4 * s) : Int32).toInt64) (x4 := (σ.1 160 (4 + 4 * s) : Int32).toInt64) (σ := σ)  (d := d + 2)) o159 rfl (rm_ok (by omega) (by decide)) ⟨rfl, rfl⟩ ⟨Nat.zero_le _, Nat.zero_le _⟩ rfl rfl (Nat.le_of_ble_eq_true rfl) ?_
        refine g_iinc (pc' := 99) (v := nI (k + 1)) (lv' := [(3, .int (nI (k + 1))), (0, .ref (b + 159)), (1, .int (x1)), (2, .int (x2))]) dX11_raise_96 rfl 3 rfl (nI_1 k) (by decide) rfl ?_
        refine g_goto (tgt := 36) dX11_raise_99 (by decide) ?_
        rw [show rsF s (m + 1) σ = rsF s m (rsS s σ) by rw [rsF, if_pos c2]]
        refine g_sub [1, 2, 3, 0] rfl ?_
        exact ih (k + 1) _ (by omega) hu
def raS (σ : Sg) : Sg := sX11_takes 1 0 0 1 σ
def rX11_raise (t : Nat) (x1 x2 : Int32) (σ : Sg) : Int32 := if rX11_isSquare x1 σ = true then (if rX11_in x2.toInt64 0 20 σ = true then rX11_becomes t x1.toNatClampNeg x1 (rsF x1.toNatClampNeg x2.toNatClampNeg (raS σ)) else -1000000002) else -1000000001
def sX11_raise (t : Nat) (x1 x2 : Int32) (σ : Sg) : Sg := if rX11_isSquare x1 σ = true then (if rX11_in x2.toInt64 0 20 σ = true then sX11_becomes t x1.toNatClampNeg x1 (rsF x1.toNatClampNeg x2.toNatClampNeg (raS σ)) else σ) else σ
set_option maxRecDepth 100000 in
set_option maxHeartbeats 4000000 in
theorem ev_X11_raise {l : Launch} {b : Nat} {cy : Nat → ClassId} {D : va_G} {d : Nat}  {x1 : Int32} {x2 : Int32} {t : Nat} {n : Nat} {σ : Sg}  (hu : σ.1 159 2 = nI t) (htt : t ≤ 20) (hz : σ.1 160 0 = nI n) (hn : n ≤ 12) : Es l b cy D (d + 4) yX11_raise cX11_raise (Option.some Jvm.ClassFile.FieldType.int) 4 [.ref (b + 159), .int (x1), .int (x2)] σ (some (.int (rX11_raise t x1 x2 σ))) (sX11_raise t x1 x2 σ) := by
  refine Ev.of (by decide) (Nat.le_of_ble_eq_true rfl) rfl ?_
  refine g_aload_n (pc' := 1) dX11_raise_0 rfl 0 rfl rfl ?_
  refine g_iload_n (pc' := 2) dX11_raise_1 rfl 1 rfl rfl ?_
  refine g_callr (pc' := 5) dX11_raise_2 rfl mX11_234 (ev_X11_isSquare (x1 := x1) (σ := σ)  (d := d + 2)) o159 rfl (rm_ok (by omega) (by decide)) ⟨rfl, rfl⟩ ⟨Nat.zero_le _, Nat.zero_le _⟩ rfl rfl (Nat.le_of_ble_eq_true rfl) ?_
  refine g_ifb_ne (pc' := 8) (tgt := 11) dX11_raise_5 rfl (by decide) (fun (c1 : (rX11_isSquare x1 σ) = true) => ?_) (fun (c1 : (rX11_isSquare x1 σ) = false) => ?_)
  · refine g_iload_n (pc' := 12) dX11_raise_11 rfl 2 rfl rfl ?_
    refine g_i2l (pc' := 13) dX11_raise_12 rfl ?_
    refine g_lconst (pc' := 14) (v := 0) dX11_raise_13 rfl (by decide) ?_
    refine g_ldc2 (pc' := 17) dX11_raise_14 rfl kX11_273 ?_
    refine g_callsr (pc' := 20) dX11_raise_17 rfl mX11_53 (ev_X11_in (x1 := (x2 : Int32).toInt64) (x2 := 0) (x3 := 20) (σ := σ)  (d := d + 3)) (rm_ok (by omega) (by decide)) ⟨rfl, rfl⟩ ⟨Nat.zero_le _, Nat.zero_le _⟩ rfl rfl (Nat.le_of_ble_eq_true rfl) ?_
    refine g_ifb_ne (pc' := 23) (tgt := 26) dX11_raise_20 rfl (by decide) (fun (c2 : (rX11_in ((x2 : Int32).toInt64) 0 20 σ) = true) => ?_) (fun (c2 : (rX11_in ((x2 : Int32).toInt64) 0 20 σ) = false) => ?_)
    · refine g_aload_n (pc' := 27) dX11_raise_26 rfl 0 rfl rfl ?_
      refine g_lconst (pc' := 28) (v := 1) dX11_raise_27 rfl (by decide) ?_
      refine g_lconst (pc' := 29) (v := 0) dX11_raise_28 rfl (by decide) ?_
      refine g_lconst (pc' := 30) (v := 0) dX11_raise_29 rfl (by decide) ?_
      refine g_lconst (pc' := 31) (v := 1) dX11_raise_30 rfl (by decide) ?_
      refine g_callv (pc' := 34) dX11_raise_31 rfl mX11_70 (ev_X11_takes (x1 := 1) (x2 := 0) (x3 := 0) (x4 := 1) (σ := σ)  (d := d + 3)) o159 rfl (rm_ok (by omega) (by decide)) ⟨rfl, rfl⟩ ⟨Nat.zero_le _, Nat.zero_le _⟩ rfl rfl (Nat.le_of_ble_eq_true rfl) ?_
      refine g_iconst (pc' := 35) (v := 0) dX11_raise_34 rfl (by decide) ?_
      refine g_istore_n (pc' := 36) (j := 3) (lv' := [(3, .int (0)), (0, .ref (b + 159)), (1, .int (x1)), (2, .int (x2))]) dX11_raise_35 rfl rfl (by decide) rfl ?_
      have e1 := isq hz hn c1
      have e2 := inN 0 20 rfl rfl c2
      rw [show rX11_raise t x1 x2 σ = _ from (if_pos c1).trans (if_pos c2), show sX11_raise t x1 x2 σ = _ from (if_pos c1).trans (if_pos c2)]
      refine g_sub [1, 2, 3, 0] rfl ?_
      exact lp_rs htt e1.1 (Nat.lt_of_lt_of_le e1.2 hn) e2.1 e2.2.2 x2.toNatClampNeg 0 (raS σ) (by omega) hu
    · refine g_ldc (pc' := 25) dX11_raise_23 rfl kX11_85 ?_
      exact g_iret dX11_raise_25 rfl ⟨rfl, rfl⟩ (by simp only [rX11_raise, sX11_raise, if_pos c1, if_neg (bf c2)])
  · refine g_ldc (pc' := 10) dX11_raise_8 rfl kX11_249 ?_
    exact g_iret dX11_raise_10 rfl ⟨rfl, rfl⟩ (by simp only [rX11_raise, sX11_raise, if_neg (bf c1)])
def tkL : Nat → Nat → Sg → Sg
  | 0, _, σ => σ
  | m + 1, k, σ => tkL m (k + 1) (u2 σ.1 160 k (σ.1 160 (k + 4)), σ.2)
def tkE (σ : Sg) : Sg := (u2 σ.1 160 0 (σ.1 160 0 - 1), σ.2)
theorem n4 (k : Nat) : nI k + 4 = nI (k + 4) := by rw [show (4 : Int32) = nI 4 from rfl, nI_add]
set_option maxRecDepth 100000 in
set_option maxHeartbeats 4000000 in
theorem lp_tk {l : Launch} {b : Nat} {cy : Nat → ClassId} {D : va_G} {d : Nat}      : ∀ (m : Nat) (k : Nat) (σ : Sg), k + m = 45 → Gs l b cy D (d + 2) yX11_take cX11_take (Option.some Jvm.ClassFile.FieldType.int) 3 (some (.int ((tkE (tkL m k σ)).1 160 0))) (tkE (tkL m k σ)) 21 [(0, .ref (b + 159)), (2, .int (nI k))] [] σ := by
  intro m
  induction m with
  | zero =>
    intro k σ hk
    refine g_iload_n (pc' := 22) dX11_take_21 rfl 1 rfl rfl ?_
    refine g_iconst (pc' := 23) (v := 4) dX11_take_22 rfl (by decide) ?_
    refine g_iadd (pc' := 24) dX11_take_23 rfl ?_
    refine g_bipush (pc' := 26) (v := 49) dX11_take_24 rfl (by decide) ?_
    refine g_icmp_ge (pc' := 29) (tgt := 49) dX11_take_26 rfl (by decide) (fun (c1 : (49 : Int32) ≤ ((nI k) + 4)) => ?_) (fun (c1 : ¬ (49 : Int32) ≤ ((nI k) + 4)) => ?_)
    · refine g_aload_n (pc' := 50) dX11_take_49 rfl 0 rfl rfl ?_
      refine g_getR (pc' := 53) (a := 160) dX11_take_50 rfl (PLk.lf fX11_7) o159 rfl ?_
      refine g_iconst (pc' := 54) (v := 0) dX11_take_53 rfl (by decide) ?_
      refine g_dup2 (pc' := 55) dX11_take_54 rfl rfl rfl ?_
      refine g_iald (pc' := 56) (j := 0) dX11_take_55 rfl o160 (by decide) (by decide) (by decide) ?_
      refine g_iconst (pc' := 57) (v := 1) dX11_take_56 rfl (by decide) ?_
      refine g_isub (pc' := 58) dX11_take_57 rfl ?_
      refine g_iast (pc' := 59) (j := 0) dX11_take_58 rfl (by decide) o160 (by decide) (by decide) (by decide) ?_
      refine g_aload_n (pc' := 60) dX11_take_59 rfl 0 rfl rfl ?_
      refine g_getR (pc' := 63) (a := 160) dX11_take_60 rfl (PLk.lf fX11_7) o159 rfl ?_
      refine g_iconst (pc' := 64) (v := 0) dX11_take_63 rfl (by decide) ?_
      refine g_iald (pc' := 65) (j := 0) dX11_take_64 rfl o160 (by decide) (by decide) (by decide) ?_
      exact g_iret dX11_take_65 rfl ⟨rfl, rfl⟩ rfl
    · exact absurd (by rw [n4]; exact (nI_leI (a := 49) (by omega) (by omega)).mpr (by omega)) c1
  | succ m ih =>
    intro k σ hk
    refine g_iload_n (pc' := 22) dX11_take_21 rfl 1 rfl rfl ?_
    refine g_iconst (pc' := 23) (v := 4) dX11_take_22 rfl (by decide) ?_
    refine g_iadd (pc' := 24) dX11_take_23 rfl ?_
    refine g_bipush (pc' := 26) (v := 49) dX11_take_24 rfl (by decide) ?_
    refine g_icmp_ge (pc' := 29) (tgt := 49) dX11_take_26 rfl (by decide) (fun (c1 : (49 : Int32) ≤ ((nI k) + 4)) => ?_) (fun (c1 : ¬ (49 : Int32) ≤ ((nI k) + 4)) => ?_)
    · exact absurd (nle (a := 49) (c := k + 4) c1 rfl (n4 k) (by omega) (by omega)) (by omega)
    · refine g_aload_n (pc' := 30) dX11_take_29 rfl 0 rfl rfl ?_
      refine g_getR (pc' := 33) (a := 160) dX11_take_30 rfl (PLk.lf fX11_7) o159 rfl ?_
      refine g_iload_n (pc' := 34) dX11_take_33 rfl 1 rfl rfl ?_
      refine g_aload_n (pc' := 35) dX11_take_34 rfl 0 rfl rfl ?_
      refine g_getR (pc' := 38) (a := 160) dX11_take_35 rfl (PLk.lf fX11_7) o159 rfl ?_
      refine g_iload_n (pc' := 39) dX11_take_38 rfl 1 rfl rfl ?_
      refine g_iconst (pc' := 40) (v := 4) dX11_take_39 rfl (by decide) ?_
      refine g_iadd (pc' := 41) dX11_take_40 rfl ?_
      refine g_iald (pc' := 42) (j := (k + 4)) dX11_take_41 rfl o160 (by decide) (n4 k) (by omega) ?_
      refine g_iast (pc' := 43) (j := k) dX11_take_42 rfl (by decide) o160 (by decide) rfl (by omega) ?_
      refine g_iinc (pc' := 46) (v := nI (k + 1)) (lv' := [(2, .int (nI (k + 1))), (0, .ref (b + 159))]) dX11_take_43 rfl 1 rfl (nI_1 k) (by decide) rfl ?_
      refine g_goto (tgt := 21) dX11_take_46 (by decide) ?_
      refine g_sub [1, 0] rfl ?_
      exact ih (k + 1) _ (by omega)
def tkS (t : Nat) (x1 : Int32) (σ : Sg) : Sg := tkE (tkL (44 - 4 * x1.toNatClampNeg) (1 + 4 * x1.toNatClampNeg) (sNo t σ))
def rX11_take (t : Nat) (x1 : Int32) (σ : Sg) : Int32 := if rX11_isSquare x1 σ = true then (tkS t x1 σ).1 160 0 else -1000000001
def sX11_take (t : Nat) (x1 : Int32) (σ : Sg) : Sg := if rX11_isSquare x1 σ = true then tkS t x1 σ else σ
set_option maxRecDepth 100000 in
set_option maxHeartbeats 4000000 in
theorem ev_X11_take {l : Launch} {b : Nat} {cy : Nat → ClassId} {D : va_G} {d : Nat}  {x1 : Int32} {t : Nat} {n : Nat} {σ : Sg}  (hu : σ.1 159 2 = nI t) (htt : t ≤ 20) (hz : σ.1 160 0 = nI n) (hn : n ≤ 12) : Es l b cy D (d + 2) yX11_take cX11_take (Option.some Jvm.ClassFile.FieldType.int) 3 [.ref (b + 159), .int (x1)] σ (some (.int (rX11_take t x1 σ))) (sX11_take t x1 σ) := by
  refine Ev.of (by decide) (Nat.le_of_ble_eq_true rfl) rfl ?_
  refine g_aload_n (pc' := 1) dX11_take_0 rfl 0 rfl rfl ?_
  refine g_iload_n (pc' := 2) dX11_take_1 rfl 1 rfl rfl ?_
  refine g_callr (pc' := 5) dX11_take_2 rfl mX11_234 (ev_X11_isSquare (x1 := x1) (σ := σ)  (d := d)) o159 rfl (rm_ok (by omega) (by decide)) ⟨rfl, rfl⟩ ⟨Nat.zero_le _, Nat.zero_le _⟩ rfl rfl (Nat.le_of_ble_eq_true rfl) ?_
  refine g_ifb_ne (pc' := 8) (tgt := 11) dX11_take_5 rfl (by decide) (fun (c1 : (rX11_isSquare x1 σ) = true) => ?_) (fun (c1 : (rX11_isSquare x1 σ) = false) => ?_)
  · refine g_aload_n (pc' := 12) dX11_take_11 rfl 0 rfl rfl ?_
    refine g_callv (pc' := 15) dX11_take_12 rfl mX11_93 (ev_X11_notes (t := t) (σ := σ) hu htt (d := d + 1)) o159 rfl (rm_ok (by omega) (by decide)) ⟨rfl, rfl⟩ ⟨Nat.zero_le _, Nat.zero_le _⟩ rfl rfl (Nat.le_of_ble_eq_true rfl) ?_
    refine g_iconst (pc' := 16) (v := 1) dX11_take_15 rfl (by decide) ?_
    refine g_iconst (pc' := 17) (v := 4) dX11_take_16 rfl (by decide) ?_
    refine g_iload_n (pc' := 18) dX11_take_17 rfl 1 rfl rfl ?_
    refine g_imul (pc' := 19) dX11_take_18 rfl ?_
    refine g_iadd (pc' := 20) dX11_take_19 rfl ?_
    refine g_istore_n (pc' := 21) (j := 2) (lv' := [(2, .int (1 + (4 * x1))), (0, .ref (b + 159)), (1, .int (x1))]) dX11_take_20 rfl rfl (by decide) rfl ?_
    have e1 := isq hz hn c1
    rw [show rX11_take t x1 σ = _ from if_pos c1, show sX11_take t x1 σ = _ from if_pos c1]
    have g0 := lp_tk (l := l) (b := b) (cy := cy) (D := D) (d := d) (44 - 4 * x1.toNatClampNeg) (1 + 4 * x1.toNatClampNeg) (sNo t σ) (by have := e1.2; omega)
    rw [← i14y (c := 1) e1.1] at g0
    refine g_sub [1, 0] rfl ?_
    exact g0
  · refine g_ldc (pc' := 10) dX11_take_8 rfl kX11_249 ?_
    exact g_iret dX11_take_10 rfl ⟨rfl, rfl⟩ (by simp only [rX11_take, sX11_take, if_neg (bf c1)])
def unF (t : Nat) : Nat → Nat → Sg → Sg
  | 0, _, σ => σ
  | m + 1, k, σ => unF t m (k + 1) (u2 σ.1 160 k (σ.1 161 (49 * t + k)), σ.2)
set_option maxRecDepth 100000 in
set_option maxHeartbeats 4000000 in
theorem lp_un {l : Launch} {b : Nat} {cy : Nat → ClassId} {D : va_G} {d : Nat}   {t : Nat}   (htt : t ≤ 19) : ∀ (m : Nat) (k : Nat) (σ : Sg), k + m = 49 → σ.1 159 2 = nI t → Gs l b cy D (d + 1) yX11_undo cX11_undo (Option.some Jvm.ClassFile.FieldType.int) 3 (some (.int ((unF t m k σ).1 160 0))) (unF t m k σ) 38 [(0, .ref (b + 159)), (2, .int (nI k))] [] σ := by
  intro m
  induction m with
  | zero =>
    intro k σ hk hu
    refine g_iload_n (pc' := 39) dX11_undo_38 rfl 1 rfl rfl ?_
    refine g_bipush (pc' := 41) (v := 49) dX11_undo_39 rfl (by decide) ?_
    refine g_icmp_ge (pc' := 44) (tgt := 70) dX11_undo_41 rfl (by decide) (fun (c1 : (49 : Int32) ≤ (nI k)) => ?_) (fun (c1 : ¬ (49 : Int32) ≤ (nI k)) => ?_)
    · refine g_aload_n (pc' := 71) dX11_undo_70 rfl 0 rfl rfl ?_
      refine g_getR (pc' := 74) (a := 160) dX11_undo_71 rfl (PLk.lf fX11_7) o159 rfl ?_
      refine g_iconst (pc' := 75) (v := 0) dX11_undo_74 rfl (by decide) ?_
      refine g_iald (pc' := 76) (j := 0) dX11_undo_75 rfl o160 (by decide) (by decide) (by decide) ?_
      exact g_iret dX11_undo_76 rfl ⟨rfl, rfl⟩ rfl
    · exact absurd ((nI_leI (a := 49) (b := k) (by omega) (by omega)).mpr (by omega)) c1
  | succ m ih =>
    intro k σ hk hu
    refine g_iload_n (pc' := 39) dX11_undo_38 rfl 1 rfl rfl ?_
    refine g_bipush (pc' := 41) (v := 49) dX11_undo_39 rfl (by decide) ?_
    refine g_icmp_ge (pc' := 44) (tgt := 70) dX11_undo_41 rfl (by decide) (fun (c1 : (49 : Int32) ≤ (nI k)) => ?_) (fun (c1 : ¬ (49 : Int32) ≤ (nI k)) => ?_)
    · exact absurd (nle (a := 49) (c := k) c1 rfl rfl (by omega) (by omega)) (by omega)
    · refine g_aload_n (pc' := 45) dX11_undo_44 rfl 0 rfl rfl ?_
      refine g_getR (pc' := 48) (a := 160) dX11_undo_45 rfl (PLk.lf fX11_7) o159 rfl ?_
      refine g_iload_n (pc' := 49) dX11_undo_48 rfl 1 rfl rfl ?_
      refine g_aload_n (pc' := 50) dX11_undo_49 rfl 0 rfl rfl ?_
      refine g_getR (pc' := 53) (a := 161) dX11_undo_50 rfl (PLk.lf fX11_13) o159 rfl ?_
      refine g_bipush (pc' := 55) (v := 49) dX11_undo_53 rfl (by decide) ?_
      refine g_aload_n (pc' := 56) dX11_undo_55 rfl 0 rfl rfl ?_
      refine g_getI (pc' := 59) dX11_undo_56 rfl (PLk.lf fX11_90) o159 rfl ?_
      refine g_imul (pc' := 60) dX11_undo_59 rfl ?_
      refine g_iload_n (pc' := 61) dX11_undo_60 rfl 1 rfl rfl ?_
      refine g_iadd (pc' := 62) dX11_undo_61 rfl ?_
      refine g_iald (pc' := 63) (j := (49 * t + k)) dX11_undo_62 rfl o161 (by decide) (by rw [hu]; exact i49 t k) (by omega) ?_
      refine g_iast (pc' := 64) (j := k) dX11_undo_63 rfl (by decide) o160 (by decide) rfl (by omega) ?_
      refine g_iinc (pc' := 67) (v := nI (k + 1)) (lv' := [(2, .int (nI (k + 1))), (0, .ref (b + 159))]) dX11_undo_64 rfl 1 rfl (nI_1 k) (by decide) rfl ?_
      refine g_goto (tgt := 38) dX11_undo_67 (by decide) ?_
      refine g_sub [1, 0] rfl ?_
      exact ih (k + 1) _ (by omega) (by dsimp only; rw [u2_k (by decide)]; exact hu)
def un0 (x1 : Int32) (σ : Sg) : Sg := (u2 σ.1 159 2 (σ.1 159 2 - x1), σ.2)
def unS (t : Nat) (x1 : Int32) (σ : Sg) : Sg := unF (t - x1.toNatClampNeg) 49 0 (un0 x1 σ)
def rX11_undo (t : Nat) (x1 : Int32) (σ : Sg) : Int32 := if rX11_in x1.toInt64 1 20 σ = true then (if x1 ≤ σ.1 159 2 then (unS t x1 σ).1 160 0 else -1000000003) else -1000000002
def sX11_undo (t : Nat) (x1 : Int32) (σ : Sg) : Sg := if rX11_in x1.toInt64 1 20 σ = true then (if x1 ≤ σ.1 159 2 then unS t x1 σ else σ) else σ
theorem un_e {t : Nat} {x : Int32} {y : Int32} (e : x = nI x.toNatClampNeg) (hy : y = nI t) (h : x.toNatClampNeg ≤ t) : y - x = nI (t - x.toNatClampNeg) := by
  have q := pk_sub h
  rw [← e, ← hy] at q
  exact q
set_option maxRecDepth 100000 in
set_option maxHeartbeats 4000000 in
theorem ev_X11_undo {l : Launch} {b : Nat} {cy : Nat → ClassId} {D : va_G} {d : Nat}  {x1 : Int32} {t : Nat} {σ : Sg}  (hu : σ.1 159 2 = nI t) (htt : t ≤ 20) : Es l b cy D (d + 1) yX11_undo cX11_undo (Option.some Jvm.ClassFile.FieldType.int) 3 [.ref (b + 159), .int (x1)] σ (some (.int (rX11_undo t x1 σ))) (sX11_undo t x1 σ) := by
  refine Ev.of (by decide) (Nat.le_of_ble_eq_true rfl) rfl ?_
  refine g_iload_n (pc' := 1) dX11_undo_0 rfl 1 rfl rfl ?_
  refine g_i2l (pc' := 2) dX11_undo_1 rfl ?_
  refine g_lconst (pc' := 3) (v := 1) dX11_undo_2 rfl (by decide) ?_
  refine g_ldc2 (pc' := 6) dX11_undo_3 rfl kX11_273 ?_
  refine g_callsr (pc' := 9) dX11_undo_6 rfl mX11_53 (ev_X11_in (x1 := (x1 : Int32).toInt64) (x2 := 1) (x3 := 20) (σ := σ)  (d := d)) (rm_ok (by omega) (by decide)) ⟨rfl, rfl⟩ ⟨Nat.zero_le _, Nat.zero_le _⟩ rfl rfl (Nat.le_of_ble_eq_true rfl) ?_
  refine g_ifb_ne (pc' := 12) (tgt := 15) dX11_undo_9 rfl (by decide) (fun (c1 : (rX11_in ((x1 : Int32).toInt64) 1 20 σ) = true) => ?_) (fun (c1 : (rX11_in ((x1 : Int32).toInt64) 1 20 σ) = false) => ?_)
  · refine g_iload_n (pc' := 16) dX11_undo_15 rfl 1 rfl rfl ?_
    refine g_aload_n (pc' := 17) dX11_undo_16 rfl 0 rfl rfl ?_
    refine g_getI (pc' := 20) dX11_undo_17 rfl (PLk.lf fX11_90) o159 rfl ?_
    refine g_icmp_le (pc' := 23) (tgt := 26) dX11_undo_20 rfl (by decide) (fun (c2 : (x1 : Int32) ≤ (σ.1 159 2)) => ?_) (fun (c2 : ¬ (x1 : Int32) ≤ (σ.1 159 2)) => ?_)
    · refine g_aload_n (pc' := 27) dX11_undo_26 rfl 0 rfl rfl ?_
      refine g_dup (pc' := 28) dX11_undo_27 rfl rfl ?_
      refine g_getI (pc' := 31) dX11_undo_28 rfl (PLk.lf fX11_90) o159 rfl ?_
      refine g_iload_n (pc' := 32) dX11_undo_31 rfl 1 rfl rfl ?_
      refine g_isub (pc' := 33) dX11_undo_32 rfl ?_
      refine g_putI (pc' := 36) dX11_undo_33 rfl fX11_90 o159 rfl ?_
      refine g_iconst (pc' := 37) (v := 0) dX11_undo_36 rfl (by decide) ?_
      refine g_istore_n (pc' := 38) (j := 2) (lv' := [(2, .int (0)), (0, .ref (b + 159)), (1, .int (x1))]) dX11_undo_37 rfl rfl (by decide) rfl ?_
      have e1 := inN 1 20 rfl rfl c1
      have e2 := nle (a := x1.toNatClampNeg) (c := t) c2 e1.1 hu (by omega) (by omega)
      rw [show rX11_undo t x1 σ = _ from (if_pos c1).trans (if_pos c2), show sX11_undo t x1 σ = _ from (if_pos c1).trans (if_pos c2)]
      refine g_sub [1, 0] rfl ?_
      exact lp_un (t := t - x1.toNatClampNeg) (by omega) 49 0 (un0 x1 σ) (by omega) (by unfold un0; dsimp only; rw [u2_eq]; exact un_e e1.1 hu e2)
    · refine g_ldc (pc' := 25) dX11_undo_23 rfl kX11_115 ?_
      exact g_iret dX11_undo_25 rfl ⟨rfl, rfl⟩ (by simp only [rX11_undo, sX11_undo, if_pos c1, if_neg c2])
  · refine g_ldc (pc' := 14) dX11_undo_12 rfl kX11_85 ?_
    exact g_iret dX11_undo_14 rfl ⟨rfl, rfl⟩ (by simp only [rX11_undo, sX11_undo, if_neg (bf c1)])
end
