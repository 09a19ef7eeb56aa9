def sX8_clear (k : Nat) (r : Nat) (e : Nat) (w : Nat) (p : Nat)  (σ : Sg) : Sg := (u2 (u2 σ.1 k 3 0) k 4 0, σ.2)
set_option maxRecDepth 100000 in
set_option maxHeartbeats 4000000 in
theorem ev_X8_clear {l : Launch} {b : Nat} {cy : Nat → ClassId} {D : va_G} {d : Nat} {k : Nat} {r : Nat} {e : Nat} {w : Nat} {p : Nat}  {σ : Sg} (hk : Wh k r e w p)  : Es l b cy D (d + 0) yX8_clear cX8_clear (Option.none : Option Jvm.ClassFile.FieldType) 1 [.ref (b + k)] σ none (sX8_clear k r e w p σ) := by
  refine Ev.of (by decide) (Nat.le_of_ble_eq_true rfl) rfl ?_
  refine g_aload_n (pc' := 1) dX8_clear_0 rfl 0 rfl rfl ?_
  refine g_iconst (pc' := 2) (v := 0) dX8_clear_1 rfl (by decide) ?_
  refine g_putI (pc' := 5) dX8_clear_2 rfl fX8_29 hk.1 rfl ?_
  refine g_aload_n (pc' := 6) dX8_clear_5 rfl 0 rfl rfl ?_
  refine g_iconst (pc' := 7) (v := 0) dX8_clear_6 rfl (by decide) ?_
  refine g_putI (pc' := 10) dX8_clear_7 rfl fX8_33 hk.1 rfl ?_
  exact g_vret dX8_clear_10 rfl ⟨rfl, rfl⟩ rfl
def rX8_count (k : Nat) (r : Nat) (e : Nat) (w : Nat) (p : Nat)  (σ : Sg) : Int32 := σ.1 k 3
set_option maxRecDepth 100000 in
set_option maxHeartbeats 4000000 in
theorem ev_X8_count {l : Launch} {b : Nat} {cy : Nat → ClassId} {D : va_G} {d : Nat} {k : Nat} {r : Nat} {e : Nat} {w : Nat} {p : Nat}  {σ : Sg} (hk : Wh k r e w p)  : Es l b cy D (d + 0) yX8_count cX8_count (Option.some Jvm.ClassFile.FieldType.int) 1 [.ref (b + k)] σ (some (.int (rX8_count k r e w p σ))) σ := by
  refine Ev.of (by decide) (Nat.le_of_ble_eq_true rfl) rfl ?_
  refine g_aload_n (pc' := 1) dX8_count_0 rfl 0 rfl rfl ?_
  refine g_getI (pc' := 4) dX8_count_1 rfl (PLk.lf fX8_29) hk.1 rfl ?_
  exact g_iret dX8_count_4 rfl ⟨rfl, rfl⟩ rfl
/-- Wheel.isLessFrom, behind k of the n runs f -/
def lessF (f : Nat → Int32) (x y n : Nat) : Nat → Nat → Bool
  | 0, _ => false
  | m + 1, i => if f ((x + i) % n) = f ((y + i) % n) then lessF f x y n m (i + 1) else decide (f ((x + i) % n) < f ((y + i) % n))
theorem remI {x i n : Nat} (h : x + i < 2 ^ 31) (h0 : 0 < n) (hn : n < 2 ^ 31) : nI x + nI i - (nI x + nI i) / nI n * nI n = nI ((x + i) % n) := by
  rw [nI_add]
  exact pk_rem h h0 hn
set_option maxRecDepth 100000 in
set_option maxHeartbeats 4000000 in
theorem lp_less {l : Launch} {b : Nat} {cy : Nat → ClassId} {D : va_G} {d : Nat} {k : Nat} {r : Nat} {e : Nat} {w : Nat} {p : Nat}  {n x y : Nat} {σ : Sg} (hk : Wh k r e w p) (hc : σ.1 k 3 = nI n) (hn : n ≤ 40) (hx : x < 2 ^ 20) (hy : y < 2 ^ 20) : ∀ (m : Nat) (i : Nat), i + m = n → Gs l b cy D (d + 0) yX8_isLessFrom cX8_isLessFrom (Option.some Jvm.ClassFile.FieldType.boolean) 6 (some (.int (bI (lessF (σ.1 r) x y n m i)))) σ 2 [(0, .ref (b + k)), (1, .int (nI x)), (2, .int (nI y)), (3, .int (nI i))] [] σ := by
  intro m
  induction m with
  | zero =>
    intro i hi
    refine g_iload_n (pc' := 3) dX8_isLessFrom_2 rfl 3 rfl rfl ?_
    refine g_aload_n (pc' := 4) dX8_isLessFrom_3 rfl 0 rfl rfl ?_
    refine g_getI (pc' := 7) dX8_isLessFrom_4 rfl (PLk.lf fX8_29) hk.1 rfl ?_
    refine g_icmp_ge (pc' := 10) (tgt := 66) dX8_isLessFrom_7 rfl (by decide) (fun (c1 : (σ.1 k 3 : Int32) ≤ (nI i)) => ?_) (fun (c1 : ¬ (σ.1 k 3 : Int32) ≤ (nI i)) => ?_)
    · refine g_iconst (pc' := 67) (v := 0) dX8_isLessFrom_66 rfl (by decide) ?_
      exact g_zret dX8_isLessFrom_67 rfl (Or.inl rfl) ⟨rfl, rfl⟩ rfl
    · exact absurd (by rw [hc]; exact (nI_leI (by omega) (by omega)).mpr (by omega)) c1
  | succ m ih =>
    intro i hi
    refine g_iload_n (pc' := 3) dX8_isLessFrom_2 rfl 3 rfl rfl ?_
    refine g_aload_n (pc' := 4) dX8_isLessFrom_3 rfl 0 rfl rfl ?_
    refine g_getI (pc' := 7) dX8_isLessFrom_4 rfl (PLk.lf fX8_29) hk.1 rfl ?_
    refine g_icmp_ge (pc' := 10) (tgt := 66) dX8_isLessFrom_7 rfl (by decide) (fun (c1 : (σ.1 k 3 : Int32) ≤ (nI i)) => ?_) (fun (c1 : ¬ (σ.1 k 3 : Int32) ≤ (nI i)) => ?_)
    · exact absurd (nle (a := n) (c := i) c1 hc rfl (by omega) (by omega)) (by omega)
    · refine g_aload_n (pc' := 11) dX8_isLessFrom_10 rfl 0 rfl rfl ?_
      refine g_getR (pc' := 14) (a := r) dX8_isLessFrom_11 rfl (PLk.lf fX8_9) hk.1 rfl ?_
      refine g_iload_n (pc' := 15) dX8_isLessFrom_14 rfl 1 rfl rfl ?_
      refine g_iload_n (pc' := 16) dX8_isLessFrom_15 rfl 3 rfl rfl ?_
      refine g_iadd (pc' := 17) dX8_isLessFrom_16 rfl ?_
      refine g_aload_n (pc' := 18) dX8_isLessFrom_17 rfl 0 rfl rfl ?_
      refine g_getI (pc' := 21) dX8_isLessFrom_18 rfl (PLk.lf fX8_29) hk.1 rfl ?_
      refine g_irem (pc' := 22) dX8_isLessFrom_21 rfl (by rw [hc]; exact nI_ne0 (by omega) (by omega)) ?_
      refine g_iald (pc' := 23) (j := ((x + i) % n)) dX8_isLessFrom_22 rfl hk.2.1 (by decide) (by rw [hc]; exact remI (by omega) (by omega) (by omega)) (Nat.lt_of_lt_of_le (Nat.mod_lt _ (by omega)) hn) ?_
      refine g_istore (pc' := 25) (j := 4) (lv' := [(4, .int (σ.1 r ((x + i) % n))), (0, .ref (b + k)), (1, .int (nI x)), (2, .int (nI y)), (3, .int (nI i))]) dX8_isLessFrom_23 rfl (by decide) rfl ?_
      refine g_aload_n (pc' := 26) dX8_isLessFrom_25 rfl 1 rfl rfl ?_
      refine g_getR (pc' := 29) (a := r) dX8_isLessFrom_26 rfl (PLk.lf fX8_9) hk.1 rfl ?_
      refine g_iload_n (pc' := 30) dX8_isLessFrom_29 rfl 3 rfl rfl ?_
      refine g_iload_n (pc' := 31) dX8_isLessFrom_30 rfl 4 rfl rfl ?_
      refine g_iadd (pc' := 32) dX8_isLessFrom_31 rfl ?_
      refine g_aload_n (pc' := 33) dX8_isLessFrom_32 rfl 1 rfl rfl ?_
      refine g_getI (pc' := 36) dX8_isLessFrom_33 rfl (PLk.lf fX8_29) hk.1 rfl ?_
      refine g_irem (pc' := 37) dX8_isLessFrom_36 rfl (by rw [hc]; exact nI_ne0 (by omega) (by omega)) ?_
      refine g_iald (pc' := 38) (j := ((y + i) % n)) dX8_isLessFrom_37 rfl hk.2.1 (by decide) (by rw [hc]; exact remI (by omega) (by omega) (by omega)) (Nat.lt_of_lt_of_le (Nat.mod_lt _ (by omega)) hn) ?_
      refine g_istore (pc' := 40) (j := 5) (lv' := [(5, .int (σ.1 r ((y + i) % n))), (4, .int (σ.1 r ((x + i) % n))), (0, .ref (b + k)), (1, .int (nI x)), (2, .int (nI y)), (3, .int (nI i))]) dX8_isLessFrom_38 rfl (by decide) rfl ?_
      refine g_iload (pc' := 42) dX8_isLessFrom_40 rfl 1 rfl ?_
      refine g_iload (pc' := 44) dX8_isLessFrom_42 rfl 0 rfl ?_
      refine g_icmp_eq (pc' := 47) (tgt := 60) dX8_isLessFrom_44 rfl (by decide) (fun (c2 : (σ.1 r ((x + i) % n) : Int32) = (σ.1 r ((y + i) % n))) => ?_) (fun (c2 : ¬ (σ.1 r ((x + i) % n) : Int32) = (σ.1 r ((y + i) % n))) => ?_)
      · refine g_iinc (pc' := 63) (v := nI (i + 1)) (lv' := [(3, .int (nI (i + 1))), (5, .int (σ.1 r ((y + i) % n))), (4, .int (σ.1 r ((x + i) % n))), (0, .ref (b + k)), (1, .int (nI x)), (2, .int (nI y))]) dX8_isLessFrom_60 rfl 5 rfl (nI_1 i) (by decide) rfl ?_
        refine g_goto (tgt := 2) dX8_isLessFrom_63 (by decide) ?_
        rw [show lessF (σ.1 r) x y n (m + 1) i = lessF (σ.1 r) x y n m (i + 1) by simp only [lessF, if_pos c2]]
        refine g_sub [3, 4, 5, 0] rfl ?_
        exact ih (i + 1) (by omega)
      · refine g_iload (pc' := 49) dX8_isLessFrom_47 rfl 1 rfl ?_
        refine g_iload (pc' := 51) dX8_isLessFrom_49 rfl 0 rfl ?_
        refine g_icmp_ge (pc' := 54) (tgt := 58) dX8_isLessFrom_51 rfl (by decide) (fun (c3 : (σ.1 r ((y + i) % n) : Int32) ≤ (σ.1 r ((x + i) % n))) => ?_) (fun (c3 : ¬ (σ.1 r ((y + i) % n) : Int32) ≤ (σ.1 r ((x + i) % n))) => ?_)
        · refine g_iconst (pc' := 59) (v := 0) dX8_isLessFrom_58 rfl (by decide) ?_
          exact g_zret dX8_isLessFrom_59 rfl (Or.inl rfl) ⟨rfl, rfl⟩ (by simp only [lessF, if_neg c2, decide_eq_false (le_not_lt c3)]; rfl)
        · refine g_iconst (pc' := 55) (v := 1) dX8_isLessFrom_54 rfl (by decide) ?_
          refine g_goto (tgt := 59) dX8_isLessFrom_55 (by decide) ?_
          exact g_zret dX8_isLessFrom_59 rfl (Or.inr rfl) ⟨rfl, rfl⟩ (by simp only [lessF, if_neg c2, decide_eq_true (not_le_lt c3)]; rfl)
set_option maxRecDepth 100000 in
set_option maxHeartbeats 4000000 in
theorem ev_X8_isLessFrom {l : Launch} {b : Nat} {cy : Nat → ClassId} {D : va_G} {d : Nat} {k : Nat} {r : Nat} {e : Nat} {w : Nat} {p : Nat} {x1 : Int32} {x2 : Int32} {n : Nat} {x : Nat} {y : Nat} {σ : Sg} (hk : Wh k r e w p) (hc : σ.1 k 3 = nI n) (hn : n ≤ 40) (q1 : x1 = nI x) (q2 : x2 = nI y) (hx : x < 2 ^ 20) (hy : y < 2 ^ 20) : Es l b cy D (d + 0) yX8_isLessFrom cX8_isLessFrom (Option.some Jvm.ClassFile.FieldType.boolean) 6 [.ref (b + k), .int (x1), .int (x2)] σ (some (.int (bI (lessF (σ.1 r) x y n n 0)))) σ := by
  refine Ev.of (by decide) (Nat.le_of_ble_eq_true rfl) rfl ?_
  refine g_iconst (pc' := 1) (v := 0) dX8_isLessFrom_0 rfl (by decide) ?_
  refine g_istore_n (pc' := 2) (j := 3) (lv' := [(3, .int (0)), (0, .ref (b + k)), (1, .int (x1)), (2, .int (x2))]) dX8_isLessFrom_1 rfl rfl (by decide) rfl ?_
  refine g_sub [1, 2, 3, 0] rfl ?_
  subst q1; subst q2
  exact lp_less hk hc hn hx hy n 0 (by omega)
