noncomputable section
def rX11_draw  (x1 : Int32) (σ : Sg) : Int32 := (((u2 σ.1 159 5 ((((((σ.1 159 5 : Int32).toInt64) * 1103515245) + 12345) - ((((σ.1 159 5 : Int32).toInt64) * 1103515245) + 12345) / 2147483648 * 2147483648 : Int64).toInt32)) 159 5) / 65536) - (((u2 σ.1 159 5 ((((((σ.1 159 5 : Int32).toInt64) * 1103515245) + 12345) - ((((σ.1 159 5 : Int32).toInt64) * 1103515245) + 12345) / 2147483648 * 2147483648 : Int64).toInt32)) 159 5) / 65536) / x1 * x1
def sX11_draw  (x1 : Int32) (σ : Sg) : Sg := (u2 σ.1 159 5 ((((((σ.1 159 5 : Int32).toInt64) * 1103515245) + 12345) - ((((σ.1 159 5 : Int32).toInt64) * 1103515245) + 12345) / 2147483648 * 2147483648 : Int64).toInt32), σ.2)
set_option maxRecDepth 100000 in
set_option maxHeartbeats 4000000 in
theorem ev_X11_draw {l : Launch} {b : Nat} {cy : Nat → ClassId} {D : va_G} {d : Nat}  {x1 : Int32} {σ : Sg}  (h0 : ¬ x1 = 0) : Es l b cy D (d + 0) yX11_draw cX11_draw (Option.some Jvm.ClassFile.FieldType.int) 2 [.ref (b + 159), .int (x1)] σ (some (.int (rX11_draw x1 σ))) (sX11_draw x1 σ) := by
  refine Ev.of (by decide) (Nat.le_of_ble_eq_true rfl) rfl ?_
  refine g_aload_n (pc' := 1) dX11_draw_0 rfl 0 rfl rfl ?_
  refine g_aload_n (pc' := 2) dX11_draw_1 rfl 0 rfl rfl ?_
  refine g_getI (pc' := 5) dX11_draw_2 rfl (PLk.lf fX11_275) o159 rfl ?_
  refine g_i2l (pc' := 6) dX11_draw_5 rfl ?_
  refine g_ldc2 (pc' := 9) dX11_draw_6 rfl kX11_278 ?_
  refine g_lmul (pc' := 10) dX11_draw_9 rfl ?_
  refine g_ldc2 (pc' := 13) dX11_draw_10 rfl kX11_280 ?_
  refine g_ladd (pc' := 14) dX11_draw_13 rfl ?_
  refine g_ldc2 (pc' := 17) dX11_draw_14 rfl kX11_282 ?_
  refine g_lrem (pc' := 18) dX11_draw_17 rfl (by decide) ?_
  refine g_l2i (pc' := 19) dX11_draw_18 rfl ?_
  refine g_putI (pc' := 22) dX11_draw_19 rfl fX11_275 o159 rfl ?_
  refine g_aload_n (pc' := 23) dX11_draw_22 rfl 0 rfl rfl ?_
  refine g_getI (pc' := 26) dX11_draw_23 rfl (PLk.lf fX11_275) o159 rfl ?_
  refine g_ldcw (pc' := 29) dX11_draw_26 rfl kX11_284 ?_
  refine g_idiv (pc' := 30) dX11_draw_29 rfl (by decide) ?_
  refine g_iload_n (pc' := 31) dX11_draw_30 rfl 1 rfl rfl ?_
  refine g_irem (pc' := 32) dX11_draw_31 rfl h0 ?_
  exact g_iret dX11_draw_32 rfl ⟨rfl, rfl⟩ rfl
/-- the next seed -/
def dw0 (x : Int32) : Int32 := ((x.toInt64 * 1103515245 + 12345) - (x.toInt64 * 1103515245 + 12345) / 2147483648 * 2147483648 : Int64).toInt32
def dw (x : Int32) : Int32 := (hd (dw0 x)).1
theorem dw_e (x : Int32) : dw x = dw0 x := (hd (dw0 x)).2
def dR (x : Int32) (σ : Sg) : Int32 := (hd (rX11_draw x σ)).1
theorem dR_e (x : Int32) (σ : Sg) : dR x σ = rX11_draw x σ := (hd (rX11_draw x σ)).2
def dS (x : Int32) (σ : Sg) : Sg := (hd (sX11_draw x σ)).1
theorem dS_e (x : Int32) (σ : Sg) : dS x σ = sX11_draw x σ := (hd (sX11_draw x σ)).2
theorem dr_1 (x : Int32) (σ : Sg) : (dS x σ).1 = u2 σ.1 159 5 (dw (σ.1 159 5)) := by
  rw [dS_e, dw_e]
  unfold sX11_draw dw0
  rfl
theorem dr_2 (x : Int32) (σ : Sg) : (dS x σ).2 = σ.2 := by
  rw [dS_e]
  unfold sX11_draw
  rfl
theorem dr_r (x : Int32) (σ : Sg) : dR x σ = dw (σ.1 159 5) / 65536 - dw (σ.1 159 5) / 65536 / x * x := by
  have e : u2 σ.1 159 5 (dw0 (σ.1 159 5)) 159 5 = dw0 (σ.1 159 5) := u2_eq _ _ _ _
  rw [dR_e, dw_e]
  unfold rX11_draw
  exact congrArg (fun z => z / 65536 - z / 65536 / x * x) e
theorem ev_X11_drawH {l : Launch} {b : Nat} {cy : Nat → ClassId} {D : va_G} {d : Nat} {x1 : Int32} {σ : Sg} (h0 : ¬ x1 = 0) : Es l b cy D (d + 0) yX11_draw cX11_draw (Option.some Jvm.ClassFile.FieldType.int) 2 [.ref (b + 159), .int (x1)] σ (some (.int (dR x1 σ))) (dS x1 σ) := by
  rw [dR_e, dS_e]
  exact ev_X11_draw h0
theorem clamp_le (v : Int32) : v ≤ nI v.toNatClampNeg := by
  rw [Int32.le_iff_toInt_le]
  by_cases h : v < 0
  · have h' := Int32.lt_iff_toInt_lt.mp h
    rw [show (0 : Int32).toInt = 0 from rfl] at h'
    rw [show v.toNatClampNeg = 0 by rw [Int32.toNatClampNeg]; omega, show (nI 0).toInt = 0 from rfl]
    omega
  · rw [← nI_self h]
    exact Int.le_refl _
theorem clamp_lt (v : Int32) : v.toNatClampNeg < 2 ^ 31 := by
  rw [Int32.toNatClampNeg]
  have := Int32.toInt_lt v
  omega
theorem clamp_nle {v : Int32} {i : Nat} (h : i < v.toNatClampNeg) : ¬ v ≤ nI i := by
  rw [Int32.le_iff_toInt_le, nI_int (Nat.lt_trans h (clamp_lt v))]
  rw [Int32.toNatClampNeg] at h
  omega
def drSt (σ : Sg) : Sg := sX11_comes (dR 6 σ) (dS 6 σ)
theorem drSt_e (σ : Sg) : drSt σ = sX11_comes (dR 6 σ) (dS 6 σ) := rfl
theorem drSt_u (σ : Sg) : (drSt σ).1 159 2 = σ.1 159 2 ∧ (drSt σ).1 160 0 = σ.1 160 0 := by
  rw [drSt_e, comes_1, dr_1]
  exact ⟨u2_j (by decide), u2_k (by decide)⟩
def drJ (f : Sg → Sg) : Nat → Sg → Sg
  | 0, σ => σ
  | m + 1, σ => drJ f m (f σ)
theorem drJ_s (f : Sg → Sg) (m : Nat) (σ : Sg) : drJ f (m + 1) σ = drJ f m (f σ) := by rw [drJ]
theorem drJ_z (f : Sg → Sg) (σ : Sg) : drJ f 0 σ = σ := by rw [drJ]
def drI (m : Nat) (σ : Sg) : Sg := drJ drSt m σ
theorem drI_s (m : Nat) (σ : Sg) : drI (m + 1) σ = drI m (drSt σ) := drJ_s drSt m σ
theorem drI_z (σ : Sg) : drI 0 σ = σ := drJ_z drSt σ
def tN (t : Nat) : Nat := if t = 20 then 20 else t + 1
theorem tN_le {t : Nat} (h : t ≤ 20) : tN t ≤ 20 := by
  unfold tN
  split <;> omega
theorem sNo_u {t : Nat} {σ : Sg} (hu : σ.1 159 2 = nI t) : (sNo t σ).1 159 2 = nI (tN t) := by
  unfold sNo tN
  split
  · next h =>
    unfold n2E n1E
    dsimp only
    rw [u2_eq, n2F_1 (by decide)]
    dsimp only
    rw [u2_eq, n1F_1 (by decide), hu, h]
    rfl
  · unfold n2E
    dsimp only
    rw [u2_eq, n2F_1 (by decide), hu, nI_1]
theorem la_160 {n : Nat} {x : Int32} {σ : Sg} (a : Nat) (h : a ≠ 160) : (sX11_laysAt n x σ).1 a = σ.1 a := by
  unfold sX11_laysAt
  dsimp only
  rw [u2k h, u2k h, u2k h, u2k h]
theorem la_0 {n : Nat} {x : Int32} {σ : Sg} : (sX11_laysAt n x σ).1 160 0 = σ.1 160 0 := by
  unfold sX11_laysAt
  dsimp only
  rw [u2_j (by omega), u2_j (by omega), u2_j (by omega), u2_j (by omega)]
theorem pu_u {t n : Nat} {σ : Sg} (hu : σ.1 159 2 = nI t) : (sX11_puts t n σ).1 159 2 = nI (tN t) := by
  unfold sX11_puts
  dsimp only
  rw [u2_k (by decide), la_160 159 (by decide), sNo_u hu]
theorem pu_z {t n : Nat} {σ : Sg} (hz : σ.1 160 0 = nI n) : (sX11_puts t n σ).1 160 0 = nI (n + 1) := by
  unfold sX11_puts
  dsimp only
  rw [u2_eq, la_0, sNo_1 (by decide) (by decide), hz, nI_1]
theorem dr_u {σ : Sg} (x : Int32) (a j : Nat) (h : j ≠ 5) : (dS x σ).1 a j = σ.1 a j := by
  rw [dr_1]
  exact u2_j h
theorem dr_a {σ : Sg} (x : Int32) (a j : Nat) (h : a ≠ 159) : (dS x σ).1 a j = σ.1 a j := by
  rw [dr_1]
  exact u2_k h
theorem drI_u : ∀ (m : Nat) (σ : Sg), (drI m σ).1 159 2 = σ.1 159 2 ∧ (drI m σ).1 160 0 = σ.1 160 0 := by
  intro m
  induction m with
  | zero => intro σ; rw [drI_z]; exact ⟨rfl, rfl⟩
  | succ m ih =>
    intro σ
    rw [drI_s]
    have q := ih (drSt σ)
    have p := drSt_u σ
    exact ⟨q.1.trans p.1, q.2.trans p.2⟩
def drM (σ : Sg) : Int32 := dR 8 σ + 2
def drT0 (σ : Sg) : Sg := sX11_takes 1 0 0 1 (dS 8 σ)
theorem drT0_u (σ : Sg) : (drT0 σ).1 159 2 = σ.1 159 2 ∧ (drT0 σ).1 160 0 = σ.1 160 0 := by
  have e : (drT0 σ).1 = u2 σ.1 159 5 (dw (σ.1 159 5)) := dr_1 8 σ
  rw [e]
  exact ⟨u2_j (by decide), u2_k (by decide)⟩
theorem drT0_e (σ : Sg) : drT0 σ = sX11_takes 1 0 0 1 (dS 8 σ) := rfl
theorem drM_e (σ : Sg) : drM σ = dR 8 σ + 2 := rfl
def drT (σ : Sg) : Sg := drI (drM σ).toNatClampNeg (drT0 σ)
theorem drT_e (σ : Sg) : drT σ = drI (drM σ).toNatClampNeg (drT0 σ) := rfl
theorem drT_u (σ : Sg) : (drT σ).1 159 2 = σ.1 159 2 ∧ (drT σ).1 160 0 = σ.1 160 0 := by
  rw [drT_e]
  have q := drI_u (drM σ).toNatClampNeg (drT0 σ)
  have p := drT0_u σ
  rw [q.1, q.2]
  exact p
def drQ (f : Sg → Sg) : Nat → Nat → Nat → Sg → Sg
  | 0, _, _, σ => σ
  | m + 1, t, n, σ => if n < 12 then drQ f m (tN t) (n + 1) (sX11_puts t n (f σ)) else σ
theorem drQ_z (f : Sg → Sg) (t n : Nat) (σ : Sg) : drQ f 0 t n σ = σ := by rw [drQ]
theorem drQ_p (f : Sg → Sg) (m t n : Nat) (σ : Sg) (h : n < 12) : drQ f (m + 1) t n σ = drQ f m (tN t) (n + 1) (sX11_puts t n (f σ)) := by rw [drQ, if_pos h]
theorem drQ_n (f : Sg → Sg) (m t n : Nat) (σ : Sg) (h : ¬ n < 12) : drQ f (m + 1) t n σ = σ := by rw [drQ, if_neg h]
def drO (m t n : Nat) (σ : Sg) : Sg := drQ drT m t n σ
theorem drO_z (t n : Nat) (σ : Sg) : drO 0 t n σ = σ := drQ_z drT t n σ
theorem drO_p (m t n : Nat) (σ : Sg) (h : n < 12) : drO (m + 1) t n σ = drO m (tN t) (n + 1) (sX11_puts t n (drT σ)) := drQ_p drT m t n σ h
theorem drO_n (m t n : Nat) (σ : Sg) (h : ¬ n < 12) : drO (m + 1) t n σ = σ := drQ_n drT m t n σ h
set_option maxRecDepth 100000 in
set_option maxHeartbeats 4000000 in
theorem lp_dri {l : Launch} {b : Nat} {cy : Nat → ClassId} {D : va_G} {d : Nat} {x1 k v : Int32} {R : Option Value} {τ : Sg} : ∀ (m i : Nat) (σ : Sg), i + m = v.toNatClampNeg → Gs l b cy D (d + 3) yX11_drift cX11_drift (Option.some Jvm.ClassFile.FieldType.int) 5 R τ 75 [(0, .ref (b + 159)), (1, .int x1), (2, .int k)] [] (drI m σ) → Gs l b cy D (d + 3) yX11_drift cX11_drift (Option.some Jvm.ClassFile.FieldType.int) 5 R τ 53 [(0, .ref (b + 159)), (1, .int x1), (2, .int k), (3, .int v), (4, .int (nI i))] [] σ := by
  intro m
  induction m with
  | zero =>
    intro i σ hi k75
    rw [drI_z] at k75
    refine g_iload (pc' := 55) dX11_drift_53 rfl 4 rfl ?_
    refine g_iload_n (pc' := 56) dX11_drift_55 rfl 3 rfl rfl ?_
    refine g_icmp_ge (pc' := 59) (tgt := 75) dX11_drift_56 rfl (by decide) (fun (c1 : (v : Int32) ≤ (nI i)) => ?_) (fun (c1 : ¬ (v : Int32) ≤ (nI i)) => ?_)
    · refine g_sub [0, 1, 2] rfl ?_
      exact k75
    · exact absurd (by rw [show i = v.toNatClampNeg by omega]; exact clamp_le v) c1
  | succ m ih =>
    intro i σ hi k75
    refine g_iload (pc' := 55) dX11_drift_53 rfl 4 rfl ?_
    refine g_iload_n (pc' := 56) dX11_drift_55 rfl 3 rfl rfl ?_
    refine g_icmp_ge (pc' := 59) (tgt := 75) dX11_drift_56 rfl (by decide) (fun (c1 : (v : Int32) ≤ (nI i)) => ?_) (fun (c1 : ¬ (v : Int32) ≤ (nI i)) => ?_)
    · exact absurd c1 (clamp_nle (by omega))
    · refine g_aload_n (pc' := 60) dX11_drift_59 rfl 0 rfl rfl ?_
      refine g_aload_n (pc' := 61) dX11_drift_60 rfl 0 rfl rfl ?_
      refine g_bipush (pc' := 63) (v := 6) dX11_drift_61 rfl (by decide) ?_
      refine g_callr (pc' := 66) dX11_drift_63 rfl mX11_287 (ev_X11_drawH (x1 := 6) (σ := σ) (by decide) (d := d + 2)) o159 rfl (rm_ok (by omega) (by decide)) ⟨rfl, rfl⟩ ⟨Nat.zero_le _, Nat.zero_le _⟩ rfl rfl (Nat.le_of_ble_eq_true rfl) ?_
      refine g_callv (pc' := 69) dX11_drift_66 rfl mX11_104 (ev_X11_comes (x1 := dR 6 σ) (σ := dS 6 σ)  (d := d)) o159 rfl (rm_ok (by omega) (by decide)) ⟨rfl, rfl⟩ ⟨Nat.zero_le _, Nat.zero_le _⟩ rfl rfl (Nat.le_of_ble_eq_true rfl) ?_
      refine g_iinc (pc' := 72) (v := nI (i + 1)) (lv' := [(4, .int (nI (i + 1))), (0, .ref (b + 159)), (1, .int (x1)), (2, .int (k)), (3, .int (v))]) dX11_drift_69 rfl 4 rfl (nI_1 i) (by decide) rfl ?_
      refine g_goto (tgt := 53) dX11_drift_72 (by decide) ?_
      refine g_sub [1, 2, 3, 4, 0] rfl ?_
      rw [← drSt_e]
      rw [drI_s] at k75
      exact ih (i + 1) _ (by omega) k75
set_option maxRecDepth 100000 in
set_option maxHeartbeats 4000000 in
theorem lp_dro {l : Launch} {b : Nat} {cy : Nat → ClassId} {D : va_G} {d : Nat} {x1 : Int32} {p : Nat} (q1 : x1 = nI p) (hp : p ≤ 12) : ∀ (m k t n : Nat) (σ : Sg), k + m = p → σ.1 159 2 = nI t → t ≤ 20 → σ.1 160 0 = nI n → n ≤ 12 → Gs l b cy D (d + 3) yX11_drift cX11_drift (Option.some Jvm.ClassFile.FieldType.int) 5 (some (.int ((drO m t n σ).1 160 0))) (drO m t n σ) 17 [(0, .ref (b + 159)), (1, .int x1), (2, .int (nI k))] [] σ := by
  intro m
  induction m with
  | zero =>
    intro k t n σ hk hu htt hz hn
    rw [drO_z]
    refine g_iload_n (pc' := 18) dX11_drift_17 rfl 2 rfl rfl ?_
    refine g_iload_n (pc' := 19) dX11_drift_18 rfl 1 rfl rfl ?_
    refine g_icmp_ge (pc' := 22) (tgt := 87) dX11_drift_19 rfl (by decide) (fun (c1 : (x1 : Int32) ≤ (nI k)) => ?_) (fun (c1 : ¬ (x1 : Int32) ≤ (nI k)) => ?_)
    · refine g_aload_n (pc' := 88) dX11_drift_87 rfl 0 rfl rfl ?_
      refine g_getR (pc' := 91) (a := 160) dX11_drift_88 rfl (PLk.lf fX11_7) o159 rfl ?_
      refine g_iconst (pc' := 92) (v := 0) dX11_drift_91 rfl (by decide) ?_
      refine g_iald (pc' := 93) (j := 0) dX11_drift_92 rfl o160 (by decide) (by decide) (by decide) ?_
      exact g_iret dX11_drift_93 rfl ⟨rfl, rfl⟩ rfl
    · exact absurd (by rw [q1]; exact (nI_leI (by omega) (by omega)).mpr (by omega)) c1
  | succ m ih =>
    intro k t n σ hk hu htt hz hn
    refine g_iload_n (pc' := 18) dX11_drift_17 rfl 2 rfl rfl ?_
    refine g_iload_n (pc' := 19) dX11_drift_18 rfl 1 rfl rfl ?_
    refine g_icmp_ge (pc' := 22) (tgt := 87) dX11_drift_19 rfl (by decide) (fun (c1 : (x1 : Int32) ≤ (nI k)) => ?_) (fun (c1 : ¬ (x1 : Int32) ≤ (nI k)) => ?_)
    · exact absurd (nle (a := p) (c := k) c1 q1 rfl (by omega) (by omega)) (by omega)
    · refine g_aload_n (pc' := 23) dX11_drift_22 rfl 0 rfl rfl ?_
      refine g_getR (pc' := 26) (a := 160) dX11_drift_23 rfl (PLk.lf fX11_7) o159 rfl ?_
      refine g_iconst (pc' := 27) (v := 0) dX11_drift_26 rfl (by decide) ?_
      refine g_iald (pc' := 28) (j := 0) dX11_drift_27 rfl o160 (by decide) (by decide) (by decide) ?_
      refine g_bipush (pc' := 30) (v := 12) dX11_drift_28 rfl (by decide) ?_
      refine g_icmp_ge (pc' := 33) (tgt := 87) dX11_drift_30 rfl (by decide) (fun (c2 : (12 : Int32) ≤ (σ.1 160 0)) => ?_) (fun (c2 : ¬ (12 : Int32) ≤ (σ.1 160 0)) => ?_)
      · rw [drO_n m t n σ (Nat.not_lt.mpr (nle (a := 12) (c := n) c2 rfl hz (by omega) (by omega)))]
        refine g_aload_n (pc' := 88) dX11_drift_87 rfl 0 rfl rfl ?_
        refine g_getR (pc' := 91) (a := 160) dX11_drift_88 rfl (PLk.lf fX11_7) o159 rfl ?_
        refine g_iconst (pc' := 92) (v := 0) dX11_drift_91 rfl (by decide) ?_
        refine g_iald (pc' := 93) (j := 0) dX11_drift_92 rfl o160 (by decide) (by decide) (by decide) ?_
        exact g_iret dX11_drift_93 rfl ⟨rfl, rfl⟩ rfl
      · refine g_aload_n (pc' := 34) dX11_drift_33 rfl 0 rfl rfl ?_
        refine g_bipush (pc' := 36) (v := 8) dX11_drift_34 rfl (by decide) ?_
        refine g_callr (pc' := 39) dX11_drift_36 rfl mX11_287 (ev_X11_drawH (x1 := 8) (σ := σ) (by decide) (d := d + 2)) o159 rfl (rm_ok (by omega) (by decide)) ⟨rfl, rfl⟩ ⟨Nat.zero_le _, Nat.zero_le _⟩ rfl rfl (Nat.le_of_ble_eq_true rfl) ?_
        refine g_iconst (pc' := 40) (v := 2) dX11_drift_39 rfl (by decide) ?_
        refine g_iadd (pc' := 41) dX11_drift_40 rfl ?_
        refine g_istore_n (pc' := 42) (j := 3) (lv' := [(3, .int ((dR 8 σ) + 2)), (0, .ref (b + 159)), (1, .int (x1)), (2, .int (nI k))]) dX11_drift_41 rfl rfl (by decide) rfl ?_
        refine g_aload_n (pc' := 43) dX11_drift_42 rfl 1 rfl rfl ?_
        refine g_lconst (pc' := 44) (v := 1) dX11_drift_43 rfl (by decide) ?_
        refine g_lconst (pc' := 45) (v := 0) dX11_drift_44 rfl (by decide) ?_
        refine g_lconst (pc' := 46) (v := 0) dX11_drift_45 rfl (by decide) ?_
        refine g_lconst (pc' := 47) (v := 1) dX11_drift_46 rfl (by decide) ?_
        refine g_callv (pc' := 50) dX11_drift_47 rfl mX11_70 (ev_X11_takes (x1 := 1) (x2 := 0) (x3 := 0) (x4 := 1) (σ := dS 8 σ)  (d := d + 2)) o159 rfl (rm_ok (by omega) (by decide)) ⟨rfl, rfl⟩ ⟨Nat.zero_le _, Nat.zero_le _⟩ rfl rfl (Nat.le_of_ble_eq_true rfl) ?_
        refine g_iconst (pc' := 51) (v := 0) dX11_drift_50 rfl (by decide) ?_
        refine g_istore (pc' := 53) (j := 4) (lv' := [(4, .int (0)), (3, .int ((dR 8 σ) + 2)), (0, .ref (b + 159)), (1, .int (x1)), (2, .int (nI k))]) dX11_drift_51 rfl (by decide) rfl ?_
        have n12 : n < 12 := nnle (a := 12) (c := n) c2 rfl hz (by omega) (by omega)
        have u9 := drT_u σ
        refine g_sub [2, 3, 4, 1, 0] rfl ?_
        rw [← drT0_e, ← drM_e]
        refine lp_dri (drM σ).toNatClampNeg 0 _ (by omega) ?_
        rw [← drT_e]
        refine g_aload_n (pc' := 76) dX11_drift_75 rfl 0 rfl rfl ?_
        refine g_callr (pc' := 79) dX11_drift_76 rfl mX11_111 (ev_X11_puts (t := t) (n := n) (σ := (drT σ)) (u9.1.trans hu) htt (u9.2.trans hz) n12 (d := d + 1)) o159 rfl (rm_ok (by omega) (by decide)) ⟨rfl, rfl⟩ ⟨Nat.zero_le _, Nat.zero_le _⟩ rfl rfl (Nat.le_of_ble_eq_true rfl) ?_
        refine g_istore (pc' := 81) (j := 4) (lv' := [(4, .int (rX11_puts t n (drT σ))), (0, .ref (b + 159)), (1, .int (x1)), (2, .int (nI k))]) dX11_drift_79 rfl (by decide) rfl ?_
        refine g_iinc (pc' := 84) (v := nI (k + 1)) (lv' := [(2, .int (nI (k + 1))), (4, .int (rX11_puts t n (drT σ))), (0, .ref (b + 159)), (1, .int (x1))]) dX11_drift_81 rfl 3 rfl (nI_1 k) (by decide) rfl ?_
        refine g_goto (tgt := 17) dX11_drift_84 (by decide) ?_
        rw [drO_p m t n σ n12]
        refine g_sub [2, 3, 0] rfl ?_
        exact ih (k + 1) (tN t) (n + 1) _ (by omega) (pu_u (u9.1.trans hu)) (tN_le htt) (pu_z (u9.2.trans hz)) (by omega)
def drS (t n : Nat) (x1 : Int32) (σ : Sg) : Sg := drO x1.toNatClampNeg t n σ
def rX11_drift (t n : Nat) (x1 : Int32) (σ : Sg) : Int32 := if rX11_in x1.toInt64 1 12 σ = true then (drS t n x1 σ).1 160 0 else -1000000002
def sX11_drift (t n : Nat) (x1 : Int32) (σ : Sg) : Sg := if rX11_in x1.toInt64 1 12 σ = true then drS t n x1 σ else σ
set_option maxRecDepth 100000 in
set_option maxHeartbeats 4000000 in
theorem ev_X11_drift {l : Launch} {b : Nat} {cy : Nat → ClassId} {D : va_G} {d : Nat}  {x1 : Int32} {t : Nat} {n : Nat} {σ : Sg}  (hu : σ.1 159 2 = nI t) (htt : t ≤ 20) (hz : σ.1 160 0 = nI n) (hn : n ≤ 12) : Es l b cy D (d + 3) yX11_drift cX11_drift (Option.some Jvm.ClassFile.FieldType.int) 5 [.ref (b + 159), .int (x1)] σ (some (.int (rX11_drift t n x1 σ))) (sX11_drift t n x1 σ) := by
  refine Ev.of (by decide) (Nat.le_of_ble_eq_true rfl) rfl ?_
  refine g_iload_n (pc' := 1) dX11_drift_0 rfl 1 rfl rfl ?_
  refine g_i2l (pc' := 2) dX11_drift_1 rfl ?_
  refine g_lconst (pc' := 3) (v := 1) dX11_drift_2 rfl (by decide) ?_
  refine g_ldc2 (pc' := 6) dX11_drift_3 rfl kX11_285 ?_
  refine g_callsr (pc' := 9) dX11_drift_6 rfl mX11_53 (ev_X11_in (x1 := (x1 : Int32).toInt64) (x2 := 1) (x3 := 12) (σ := σ)  (d := d + 2)) (rm_ok (by omega) (by decide)) ⟨rfl, rfl⟩ ⟨Nat.zero_le _, Nat.zero_le _⟩ rfl rfl (Nat.le_of_ble_eq_true rfl) ?_
  refine g_ifb_ne (pc' := 12) (tgt := 15) dX11_drift_9 rfl (by decide) (fun (c1 : (rX11_in ((x1 : Int32).toInt64) 1 12 σ) = true) => ?_) (fun (c1 : (rX11_in ((x1 : Int32).toInt64) 1 12 σ) = false) => ?_)
  · refine g_iconst (pc' := 16) (v := 0) dX11_drift_15 rfl (by decide) ?_
    refine g_istore_n (pc' := 17) (j := 2) (lv' := [(2, .int (0)), (0, .ref (b + 159)), (1, .int (x1))]) dX11_drift_16 rfl rfl (by decide) rfl ?_
    have e1 := inN 1 12 rfl rfl c1
    rw [show rX11_drift t n x1 σ = _ from if_pos c1, show sX11_drift t n x1 σ = _ from if_pos c1]
    refine g_sub [1, 2, 0] rfl ?_
    exact lp_dro e1.1 e1.2.2 x1.toNatClampNeg 0 t n σ (by omega) hu htt hz hn
  · refine g_ldc (pc' := 14) dX11_drift_12 rfl kX11_85 ?_
    exact g_iret dX11_drift_14 rfl ⟨rfl, rfl⟩ (by simp only [rX11_drift, sX11_drift, if_neg (bf c1)])
end
