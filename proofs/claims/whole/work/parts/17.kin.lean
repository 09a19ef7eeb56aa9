def gcdF : Nat → Int64 → Int64 → Int64
  | 0, g, _ => g
  | m + 1, g, r => if r = 0 then g else gcdF m r (g - g / r * r)
/-- runs and beginning of a wheel, as numbers -/
def cnt (σ : Sg) (h : Nat) : Nat := (σ.1 h 3).toNatClampNeg
def stt (σ : Sg) (h : Nat) : Nat := (σ.1 h 4).toNatClampNeg
def WOk (σ : Sg) (h : Nat) : Prop := σ.1 h 3 = nI (cnt σ h) ∧ cnt σ h ≤ 40 ∧ σ.1 h 4 = nI (stt σ h) ∧ stt σ h ≤ 42
theorem WOk.t {σ : Sg} {h : Nat} (q : WOk σ h) : stt σ h < 2 ^ 20 := by have := q.2.2.2; omega
def rX3_kind (k : Nat) (s : Nat) (h : Nat) (r : Nat) (e : Nat) (w : Nat) (p : Nat)  (σ : Sg) : Int32 := σ.1 k 2
set_option maxRecDepth 100000 in
set_option maxHeartbeats 4000000 in
theorem ev_X3_kind {l : Launch} {b : Nat} {cy : Nat → ClassId} {D : va_G} {d : Nat} {k : Nat} {s : Nat} {h : Nat} {r : Nat} {e : Nat} {w : Nat} {p : Nat}  {σ : Sg} (hk : Ki k s h r e w p)  : Es l b cy D (d + 0) yX3_kind cX3_kind (Option.some Jvm.ClassFile.FieldType.int) 1 [.ref (b + k)] σ (some (.int (rX3_kind k s h r e w p σ))) σ := by
  refine Ev.of (by decide) (Nat.le_of_ble_eq_true rfl) rfl ?_
  refine g_aload_n (pc' := 1) dX3_kind_0 rfl 0 rfl rfl ?_
  refine g_getI (pc' := 4) dX3_kind_1 rfl (PLk.lf fX3_25) hk.1 rfl ?_
  exact g_iret dX3_kind_4 rfl ⟨rfl, rfl⟩ rfl
def rX3_mark (k : Nat) (s : Nat) (h : Nat) (r : Nat) (e : Nat) (w : Nat) (p : Nat)  (σ : Sg) : Int32 := σ.1 k 3
set_option maxRecDepth 100000 in
set_option maxHeartbeats 4000000 in
theorem ev_X3_mark {l : Launch} {b : Nat} {cy : Nat → ClassId} {D : va_G} {d : Nat} {k : Nat} {s : Nat} {h : Nat} {r : Nat} {e : Nat} {w : Nat} {p : Nat}  {σ : Sg} (hk : Ki k s h r e w p)  : Es l b cy D (d + 0) yX3_mark cX3_mark (Option.some Jvm.ClassFile.FieldType.int) 1 [.ref (b + k)] σ (some (.int (rX3_mark k s h r e w p σ))) σ := by
  refine Ev.of (by decide) (Nat.le_of_ble_eq_true rfl) rfl ?_
  refine g_aload_n (pc' := 1) dX3_mark_0 rfl 0 rfl rfl ?_
  refine g_getI (pc' := 4) dX3_mark_1 rfl (PLk.lf fX3_29) hk.1 rfl ?_
  exact g_iret dX3_mark_4 rfl ⟨rfl, rfl⟩ rfl
set_option maxRecDepth 100000 in
set_option maxHeartbeats 4000000 in
theorem ev_X3_wheel {l : Launch} {b : Nat} {cy : Nat → ClassId} {D : va_G} {d : Nat} {k : Nat} {s : Nat} {h : Nat} {r : Nat} {e : Nat} {w : Nat} {p : Nat}  {σ : Sg} (hk : Ki k s h r e w p)  : Es l b cy D (d + 0) yX3_wheel cX3_wheel (Option.some (Jvm.ClassFile.FieldType.object "MatrixKin$Wheel")) 1 [.ref (b + k)] σ (some (.ref (b + h))) σ := by
  refine Ev.of (by decide) (Nat.le_of_ble_eq_true rfl) rfl ?_
  refine g_aload_n (pc' := 1) dX3_wheel_0 rfl 0 rfl rfl ?_
  refine g_getR (pc' := 4) (a := h) dX3_wheel_1 rfl (PLk.lf fX3_21) hk.1 rfl ?_
  exact g_aret dX3_wheel_4 rfl ⟨rfl, rfl⟩ rfl
def rX3_trace (k : Nat) (s : Nat) (h : Nat) (r : Nat) (e : Nat) (w : Nat) (p : Nat)  (σ : Sg) : Int32 := (rX6_trace s σ : Int64).toInt32
set_option maxRecDepth 100000 in
set_option maxHeartbeats 4000000 in
theorem ev_X3_trace {l : Launch} {b : Nat} {cy : Nat → ClassId} {D : va_G} {d : Nat} {k : Nat} {s : Nat} {h : Nat} {r : Nat} {e : Nat} {w : Nat} {p : Nat}  {σ : Sg} (hk : Ki k s h r e w p)  : Es l b cy D (d + 1) yX3_trace cX3_trace (Option.some Jvm.ClassFile.FieldType.int) 1 [.ref (b + k)] σ (some (.int (rX3_trace k s h r e w p σ))) σ := by
  refine Ev.of (by decide) (Nat.le_of_ble_eq_true rfl) rfl ?_
  refine g_aload_n (pc' := 1) dX3_trace_0 rfl 0 rfl rfl ?_
  refine g_getR (pc' := 4) (a := s) dX3_trace_1 rfl (PLk.lf fX3_12) hk.1 rfl ?_
  refine g_callr (pc' := 7) dX3_trace_4 rfl mX3_53 (ev_X6_trace (k := s) (σ := σ) hk.2.1 (d := d)) hk.2.1 rfl (rm_ok (by omega) (by decide)) ⟨rfl, rfl⟩ ⟨Nat.zero_le _, Nat.zero_le _⟩ rfl rfl (Nat.le_of_ble_eq_true rfl) ?_
  refine g_l2i (pc' := 8) dX3_trace_7 rfl ?_
  exact g_iret dX3_trace_8 rfl ⟨rfl, rfl⟩ rfl
def rX3_sign (k : Nat) (s : Nat) (h : Nat) (r : Nat) (e : Nat) (w : Nat) (p : Nat)  (σ : Sg) : Int32 := if 0 ≤ (rX3_trace k s h r e w p σ : Int32) then 1 else -1
set_option maxRecDepth 100000 in
set_option maxHeartbeats 4000000 in
theorem ev_X3_sign {l : Launch} {b : Nat} {cy : Nat → ClassId} {D : va_G} {d : Nat} {k : Nat} {s : Nat} {h : Nat} {r : Nat} {e : Nat} {w : Nat} {p : Nat}  {σ : Sg} (hk : Ki k s h r e w p)  : Es l b cy D (d + 2) yX3_sign cX3_sign (Option.some Jvm.ClassFile.FieldType.int) 1 [.ref (b + k)] σ (some (.int (rX3_sign k s h r e w p σ))) σ := by
  refine Ev.of (by decide) (Nat.le_of_ble_eq_true rfl) rfl ?_
  refine g_aload_n (pc' := 1) dX3_sign_0 rfl 0 rfl rfl ?_
  refine g_callr (pc' := 4) dX3_sign_1 rfl mX3_85 (ev_X3_trace (k := k) (s := s) (h := h) (r := r) (e := e) (w := w) (p := p) (σ := σ) hk (d := d)) hk.1 rfl (rm_ok (by omega) (by decide)) ⟨rfl, rfl⟩ ⟨Nat.zero_le _, Nat.zero_le _⟩ rfl rfl (Nat.le_of_ble_eq_true rfl) ?_
  refine g_if_ge (pc' := 7) (tgt := 11) dX3_sign_4 rfl (by decide) (fun (c1 : 0 ≤ (rX3_trace k s h r e w p σ : Int32)) => ?_) (fun (c1 : ¬ 0 ≤ (rX3_trace k s h r e w p σ : Int32)) => ?_)
  · refine g_iconst (pc' := 12) (v := 1) dX3_sign_11 rfl (by decide) ?_
    exact g_iret dX3_sign_12 rfl ⟨rfl, rfl⟩ (by simp only [rX3_sign, if_pos c1, bI_t, bI_f])
  · refine g_iconst (pc' := 8) (v := -1) dX3_sign_7 rfl (by decide) ?_
    refine g_goto (tgt := 12) dX3_sign_8 (by decide) ?_
    exact g_iret dX3_sign_12 rfl ⟨rfl, rfl⟩ (by simp only [rX3_sign, if_neg c1, bI_t, bI_f])
def rX3_order (k : Nat) (s : Nat) (h : Nat) (r : Nat) (e : Nat) (w : Nat) (p : Nat)  (σ : Sg) : Int32 := if (σ.1 k 2 : Int32) = 0 then if (rX3_trace k s h r e w p σ : Int32) ≤ 0 then 2 else 1 else if (σ.1 k 2 : Int32) = 1 then if (rX3_trace k s h r e w p σ : Int32) = 0 then 4 else if (rX3_trace k s h r e w p σ : Int32) ≤ 0 then 3 else 6 else -1
set_option maxRecDepth 100000 in
set_option maxHeartbeats 4000000 in
theorem ev_X3_order {l : Launch} {b : Nat} {cy : Nat → ClassId} {D : va_G} {d : Nat} {k : Nat} {s : Nat} {h : Nat} {r : Nat} {e : Nat} {w : Nat} {p : Nat}  {σ : Sg} (hk : Ki k s h r e w p)  : Es l b cy D (d + 2) yX3_order cX3_order (Option.some Jvm.ClassFile.FieldType.int) 1 [.ref (b + k)] σ (some (.int (rX3_order k s h r e w p σ))) σ := by
  refine Ev.of (by decide) (Nat.le_of_ble_eq_true rfl) rfl ?_
  refine g_aload_n (pc' := 1) dX3_order_0 rfl 0 rfl rfl ?_
  refine g_getI (pc' := 4) dX3_order_1 rfl (PLk.lf fX3_25) hk.1 rfl ?_
  refine g_if_ne (pc' := 7) (tgt := 20) dX3_order_4 rfl (by decide) (fun (c1 : ¬ (σ.1 k 2 : Int32) = 0) => ?_) (fun (c1 : (σ.1 k 2 : Int32) = 0) => ?_)
  · refine g_aload_n (pc' := 21) dX3_order_20 rfl 0 rfl rfl ?_
    refine g_getI (pc' := 24) dX3_order_21 rfl (PLk.lf fX3_25) hk.1 rfl ?_
    refine g_iconst (pc' := 25) (v := 1) dX3_order_24 rfl (by decide) ?_
    refine g_icmp_ne (pc' := 28) (tgt := 53) dX3_order_25 rfl (by decide) (fun (c2 : ¬ (σ.1 k 2 : Int32) = 1) => ?_) (fun (c2 : (σ.1 k 2 : Int32) = 1) => ?_)
    · refine g_iconst (pc' := 54) (v := -1) dX3_order_53 rfl (by decide) ?_
      exact g_iret dX3_order_54 rfl ⟨rfl, rfl⟩ (by simp only [rX3_order, if_neg c1, if_neg c2, bI_t, bI_f])
    · refine g_aload_n (pc' := 29) dX3_order_28 rfl 0 rfl rfl ?_
      refine g_callr (pc' := 32) dX3_order_29 rfl mX3_85 (ev_X3_trace (k := k) (s := s) (h := h) (r := r) (e := e) (w := w) (p := p) (σ := σ) hk (d := d)) hk.1 rfl (rm_ok (by omega) (by decide)) ⟨rfl, rfl⟩ ⟨Nat.zero_le _, Nat.zero_le _⟩ rfl rfl (Nat.le_of_ble_eq_true rfl) ?_
      refine g_if_ne (pc' := 35) (tgt := 39) dX3_order_32 rfl (by decide) (fun (c3 : ¬ (rX3_trace k s h r e w p σ : Int32) = 0) => ?_) (fun (c3 : (rX3_trace k s h r e w p σ : Int32) = 0) => ?_)
      · refine g_aload_n (pc' := 40) dX3_order_39 rfl 0 rfl rfl ?_
        refine g_callr (pc' := 43) dX3_order_40 rfl mX3_85 (ev_X3_trace (k := k) (s := s) (h := h) (r := r) (e := e) (w := w) (p := p) (σ := σ) hk (d := d)) hk.1 rfl (rm_ok (by omega) (by decide)) ⟨rfl, rfl⟩ ⟨Nat.zero_le _, Nat.zero_le _⟩ rfl rfl (Nat.le_of_ble_eq_true rfl) ?_
        refine g_if_le (pc' := 46) (tgt := 51) dX3_order_43 rfl (by decide) (fun (c4 : (rX3_trace k s h r e w p σ : Int32) ≤ 0) => ?_) (fun (c4 : ¬ (rX3_trace k s h r e w p σ : Int32) ≤ 0) => ?_)
        · refine g_iconst (pc' := 52) (v := 3) dX3_order_51 rfl (by decide) ?_
          exact g_iret dX3_order_52 rfl ⟨rfl, rfl⟩ (by simp only [rX3_order, if_neg c1, if_pos c2, if_neg c3, if_pos c4, bI_t, bI_f])
        · refine g_bipush (pc' := 48) (v := 6) dX3_order_46 rfl (by decide) ?_
          refine g_goto (tgt := 52) dX3_order_48 (by decide) ?_
          exact g_iret dX3_order_52 rfl ⟨rfl, rfl⟩ (by simp only [rX3_order, if_neg c1, if_pos c2, if_neg c3, if_neg c4, bI_t, bI_f])
      · refine g_iconst (pc' := 36) (v := 4) dX3_order_35 rfl (by decide) ?_
        refine g_goto (tgt := 52) dX3_order_36 (by decide) ?_
        exact g_iret dX3_order_52 rfl ⟨rfl, rfl⟩ (by simp only [rX3_order, if_neg c1, if_pos c2, if_pos c3, bI_t, bI_f])
  · refine g_aload_n (pc' := 8) dX3_order_7 rfl 0 rfl rfl ?_
    refine g_callr (pc' := 11) dX3_order_8 rfl mX3_85 (ev_X3_trace (k := k) (s := s) (h := h) (r := r) (e := e) (w := w) (p := p) (σ := σ) hk (d := d)) hk.1 rfl (rm_ok (by omega) (by decide)) ⟨rfl, rfl⟩ ⟨Nat.zero_le _, Nat.zero_le _⟩ rfl rfl (Nat.le_of_ble_eq_true rfl) ?_
    refine g_if_le (pc' := 14) (tgt := 18) dX3_order_11 rfl (by decide) (fun (c5 : (rX3_trace k s h r e w p σ : Int32) ≤ 0) => ?_) (fun (c5 : ¬ (rX3_trace k s h r e w p σ : Int32) ≤ 0) => ?_)
    · refine g_iconst (pc' := 19) (v := 2) dX3_order_18 rfl (by decide) ?_
      exact g_iret dX3_order_19 rfl ⟨rfl, rfl⟩ (by simp only [rX3_order, if_pos c1, if_pos c5, bI_t, bI_f])
    · refine g_iconst (pc' := 15) (v := 1) dX3_order_14 rfl (by decide) ?_
      refine g_goto (tgt := 19) dX3_order_15 (by decide) ?_
      exact g_iret dX3_order_19 rfl ⟨rfl, rfl⟩ (by simp only [rX3_order, if_pos c1, if_neg c5, bI_t, bI_f])
def rX3_kindOf (i : Nat)  (σ : Sg) : Int32 := if (rJ9_abs_067f4 (rX6_trace i σ) σ : Int64) < 2 then 1 else if (2 : Int64) < (rJ9_abs_067f4 (rX6_trace i σ) σ) then 3 else if (σ.2 i 1 : Int64) = 0 then if (σ.2 i 2 : Int64) = 0 then 0 else 2 else 2
set_option maxRecDepth 100000 in
set_option maxHeartbeats 4000000 in
theorem ev_X3_kindOf {l : Launch} {b : Nat} {cy : Nat → ClassId} {D : va_G} {d : Nat} {i : Nat}  {σ : Sg} (hi : Sq i)  : Es l b cy D (d + 1) yX3_kindOf cX3_kindOf (Option.some Jvm.ClassFile.FieldType.int) 3 [.ref (b + i)] σ (some (.int (rX3_kindOf i σ))) σ := by
  refine Ev.of (by decide) (Nat.le_of_ble_eq_true rfl) rfl ?_
  refine g_aload_n (pc' := 1) dX3_kindOf_0 rfl 0 rfl rfl ?_
  refine g_callr (pc' := 4) dX3_kindOf_1 rfl mX3_53 (ev_X6_trace (k := i) (σ := σ) hi (d := d)) hi rfl (rm_ok (by omega) (by decide)) ⟨rfl, rfl⟩ ⟨Nat.zero_le _, Nat.zero_le _⟩ rfl rfl (Nat.le_of_ble_eq_true rfl) ?_
  refine g_callsr (pc' := 7) dX3_kindOf_4 rfl mX3_57 (ev_J9_abs_067f4 (x1 := rX6_trace i σ) (σ := σ)  (d := d)) (rm_ok (by omega) (by decide)) ⟨rfl, rfl⟩ ⟨Nat.zero_le _, Nat.zero_le _⟩ rfl rfl (Nat.le_of_ble_eq_true rfl) ?_
  refine g_lstore_n (pc' := 8) (j := 1) (lv' := [(1, .long (rJ9_abs_067f4 (rX6_trace i σ) σ)), (0, .ref (b + i))]) dX3_kindOf_7 rfl rfl (by decide) rfl ?_
  refine g_lload_n (pc' := 9) dX3_kindOf_8 rfl 0 rfl rfl ?_
  refine g_ldc2 (pc' := 12) dX3_kindOf_9 rfl kX3_63 ?_
  refine g_lif_ge (pc' := 16) (tgt := 18) dX3_kindOf_12 dX3_kindOf_13 rfl (by decide) (fun (c1 : ¬ (rJ9_abs_067f4 (rX6_trace i σ) σ : Int64) < 2) => ?_) (fun (c1 : (rJ9_abs_067f4 (rX6_trace i σ) σ : Int64) < 2) => ?_)
  · refine g_lload_n (pc' := 19) dX3_kindOf_18 rfl 0 rfl rfl ?_
    refine g_ldc2 (pc' := 22) dX3_kindOf_19 rfl kX3_63 ?_
    refine g_lif_le (pc' := 26) (tgt := 28) dX3_kindOf_22 dX3_kindOf_23 rfl (by decide) (fun (c2 : ¬ (2 : Int64) < (rJ9_abs_067f4 (rX6_trace i σ) σ)) => ?_) (fun (c2 : (2 : Int64) < (rJ9_abs_067f4 (rX6_trace i σ) σ)) => ?_)
    · refine g_aload_n (pc' := 29) dX3_kindOf_28 rfl 1 rfl rfl ?_
      refine g_getL (pc' := 32) dX3_kindOf_29 rfl (PLk.lf fX3_65) hi rfl ?_
      refine g_lconst (pc' := 33) (v := 0) dX3_kindOf_32 rfl (by decide) ?_
      refine g_lif_ne (pc' := 37) (tgt := 50) dX3_kindOf_33 dX3_kindOf_34 rfl (by decide) (fun (c3 : ¬ (σ.2 i 1 : Int64) = 0) => ?_) (fun (c3 : (σ.2 i 1 : Int64) = 0) => ?_)
      · refine g_iconst (pc' := 51) (v := 2) dX3_kindOf_50 rfl (by decide) ?_
        exact g_iret dX3_kindOf_51 rfl ⟨rfl, rfl⟩ (by simp only [rX3_kindOf, if_neg c1, if_neg c2, if_neg c3, bI_t, bI_f])
      · refine g_aload_n (pc' := 38) dX3_kindOf_37 rfl 1 rfl rfl ?_
        refine g_getL (pc' := 41) dX3_kindOf_38 rfl (PLk.lf fX3_69) hi rfl ?_
        refine g_lconst (pc' := 42) (v := 0) dX3_kindOf_41 rfl (by decide) ?_
        refine g_lif_ne (pc' := 46) (tgt := 50) dX3_kindOf_42 dX3_kindOf_43 rfl (by decide) (fun (c4 : ¬ (σ.2 i 2 : Int64) = 0) => ?_) (fun (c4 : (σ.2 i 2 : Int64) = 0) => ?_)
        · refine g_iconst (pc' := 51) (v := 2) dX3_kindOf_50 rfl (by decide) ?_
          exact g_iret dX3_kindOf_51 rfl ⟨rfl, rfl⟩ (by simp only [rX3_kindOf, if_neg c1, if_neg c2, if_pos c3, if_neg c4, bI_t, bI_f])
        · refine g_iconst (pc' := 47) (v := 0) dX3_kindOf_46 rfl (by decide) ?_
          refine g_goto (tgt := 51) dX3_kindOf_47 (by decide) ?_
          exact g_iret dX3_kindOf_51 rfl ⟨rfl, rfl⟩ (by simp only [rX3_kindOf, if_neg c1, if_neg c2, if_pos c3, if_pos c4, bI_t, bI_f])
    · refine g_iconst (pc' := 27) (v := 3) dX3_kindOf_26 rfl (by decide) ?_
      exact g_iret dX3_kindOf_27 rfl ⟨rfl, rfl⟩ (by simp only [rX3_kindOf, if_neg c1, if_pos c2, bI_t, bI_f])
  · refine g_iconst (pc' := 17) (v := 1) dX3_kindOf_16 rfl (by decide) ?_
    exact g_iret dX3_kindOf_17 rfl ⟨rfl, rfl⟩ (by simp only [rX3_kindOf, if_pos c1, bI_t, bI_f])
set_option maxRecDepth 100000 in
set_option maxHeartbeats 4000000 in
theorem lp_gcd {l : Launch} {b : Nat} {cy : Nat → ClassId} {D : va_G} {d : Nat}   {σ : Sg}   : ∀ (m : Nat) (j : Nat) (g : Int64) (q : Int64), j + m = 64 → Gs l b cy D (d + 0) yX3_commonPart cX3_commonPart (Option.some Jvm.ClassFile.FieldType.long) 11 (some (.long (gcdF m g q))) σ 9 [(4, .long (g)), (6, .long (q)), (8, .int (nI j))] [] σ := by
  intro m
  induction m with
  | zero =>
    intro j g q hj
    refine g_iload (pc' := 11) dX3_commonPart_9 rfl 2 rfl ?_
    refine g_bipush (pc' := 13) (v := 64) dX3_commonPart_11 rfl (by decide) ?_
    refine g_icmp_ge (pc' := 16) (tgt := 44) dX3_commonPart_13 rfl (by decide) (fun (c1 : (64 : Int32) ≤ (nI j)) => ?_) (fun (c1 : ¬ (64 : Int32) ≤ (nI j)) => ?_)
    · refine g_lload (pc' := 46) dX3_commonPart_44 rfl 0 rfl ?_
      exact g_lret dX3_commonPart_46 rfl ⟨rfl, rfl⟩ rfl
    · exact absurd ((nI_leI (a := 64) (b := j) (by omega) (by omega)).mpr (by omega)) c1
  | succ m ih =>
    intro j g q hj
    refine g_iload (pc' := 11) dX3_commonPart_9 rfl 2 rfl ?_
    refine g_bipush (pc' := 13) (v := 64) dX3_commonPart_11 rfl (by decide) ?_
    refine g_icmp_ge (pc' := 16) (tgt := 44) dX3_commonPart_13 rfl (by decide) (fun (c1 : (64 : Int32) ≤ (nI j)) => ?_) (fun (c1 : ¬ (64 : Int32) ≤ (nI j)) => ?_)
    · exact absurd (nle (a := 64) (c := j) c1 rfl rfl (by omega) (by omega)) (by omega)
    · refine g_lload (pc' := 18) dX3_commonPart_16 rfl 1 rfl ?_
      refine g_lconst (pc' := 19) (v := 0) dX3_commonPart_18 rfl (by decide) ?_
      refine g_lif_eq (pc' := 23) (tgt := 44) dX3_commonPart_19 dX3_commonPart_20 rfl (by decide) (fun (c2 : (q : Int64) = 0) => ?_) (fun (c2 : ¬ (q : Int64) = 0) => ?_)
      · refine g_lload (pc' := 46) dX3_commonPart_44 rfl 0 rfl ?_
        exact g_lret dX3_commonPart_46 rfl ⟨rfl, rfl⟩ (by simp only [gcdF, if_pos c2])
      · refine g_lload (pc' := 25) dX3_commonPart_23 rfl 0 rfl ?_
        refine g_lload (pc' := 27) dX3_commonPart_25 rfl 1 rfl ?_
        refine g_lrem (pc' := 28) dX3_commonPart_27 rfl c2 ?_
        refine g_lstore (pc' := 30) (j := 9) (lv' := [(9, .long (g - g / q * q)), (4, .long (g)), (6, .long (q)), (8, .int (nI j))]) dX3_commonPart_28 rfl (by decide) rfl ?_
        refine g_lload (pc' := 32) dX3_commonPart_30 rfl 2 rfl ?_
        refine g_lstore (pc' := 34) (j := 4) (lv' := [(4, .long (q)), (9, .long (g - g / q * q)), (6, .long (q)), (8, .int (nI j))]) dX3_commonPart_32 rfl (by decide) rfl ?_
        refine g_lload (pc' := 36) dX3_commonPart_34 rfl 1 rfl ?_
        refine g_lstore (pc' := 38) (j := 6) (lv' := [(6, .long (g - g / q * q)), (4, .long (q)), (9, .long (g - g / q * q)), (8, .int (nI j))]) dX3_commonPart_36 rfl (by decide) rfl ?_
        refine g_iinc (pc' := 41) (v := nI (j + 1)) (lv' := [(8, .int (nI (j + 1))), (6, .long (g - g / q * q)), (4, .long (q)), (9, .long (g - g / q * q))]) dX3_commonPart_38 rfl 3 rfl (nI_1 j) (by decide) rfl ?_
        refine g_goto (tgt := 9) dX3_commonPart_41 (by decide) ?_
        rw [show gcdF (m + 1) g q = gcdF m q (g - g / q * q) by simp only [gcdF, if_neg c2]]
        refine g_sub [2, 1, 0] rfl ?_
        exact ih (j + 1) _ _ (by omega)
set_option maxRecDepth 100000 in
set_option maxHeartbeats 4000000 in
theorem ev_X3_commonPart {l : Launch} {b : Nat} {cy : Nat → ClassId} {D : va_G} {d : Nat}  {x1 : Int64} {x2 : Int64}  {σ : Sg}   : Es l b cy D (d + 0) yX3_commonPart cX3_commonPart (Option.some Jvm.ClassFile.FieldType.long) 11 [.long (x1), .long (x2)] σ (some (.long (gcdF 64 x1 x2))) σ := by
  refine Ev.of (by decide) (Nat.le_of_ble_eq_true rfl) rfl ?_
  refine g_lload_n (pc' := 1) dX3_commonPart_0 rfl 0 rfl rfl ?_
  refine g_lstore (pc' := 3) (j := 4) (lv' := [(4, .long (x1)), (0, .long (x1)), (2, .long (x2))]) dX3_commonPart_1 rfl (by decide) rfl ?_
  refine g_lload_n (pc' := 4) dX3_commonPart_3 rfl 2 rfl rfl ?_
  refine g_lstore (pc' := 6) (j := 6) (lv' := [(6, .long (x2)), (4, .long (x1)), (0, .long (x1)), (2, .long (x2))]) dX3_commonPart_4 rfl (by decide) rfl ?_
  refine g_iconst (pc' := 7) (v := 0) dX3_commonPart_6 rfl (by decide) ?_
  refine g_istore (pc' := 9) (j := 8) (lv' := [(8, .int (0)), (6, .long (x2)), (4, .long (x1)), (0, .long (x1)), (2, .long (x2))]) dX3_commonPart_7 rfl (by decide) rfl ?_
  refine g_sub [2, 1, 0] rfl ?_
  exact lp_gcd 64 0 x1 x2 (by omega)
def rX3_measureShift (i : Nat)  (σ : Sg) : Int32 := if (0 : Int64) < (σ.2 i 1) then if (rX6_trace i σ : Int64) < 0 then (-(gcdF 64 (rJ9_abs_067f4 (σ.2 i 1) σ) (rJ9_abs_067f4 (σ.2 i 2) σ)) : Int64).toInt32 else (gcdF 64 (rJ9_abs_067f4 (σ.2 i 1) σ) (rJ9_abs_067f4 (σ.2 i 2) σ) : Int64).toInt32 else if (σ.2 i 2 : Int64) < 0 then if (rX6_trace i σ : Int64) < 0 then (-(gcdF 64 (rJ9_abs_067f4 (σ.2 i 1) σ) (rJ9_abs_067f4 (σ.2 i 2) σ)) : Int64).toInt32 else (gcdF 64 (rJ9_abs_067f4 (σ.2 i 1) σ) (rJ9_abs_067f4 (σ.2 i 2) σ) : Int64).toInt32 else if (rX6_trace i σ : Int64) < 0 then (gcdF 64 (rJ9_abs_067f4 (σ.2 i 1) σ) (rJ9_abs_067f4 (σ.2 i 2) σ) : Int64).toInt32 else (-(gcdF 64 (rJ9_abs_067f4 (σ.2 i 1) σ) (rJ9_abs_067f4 (σ.2 i 2) σ)) : Int64).toInt32
set_option maxRecDepth 100000 in
set_option maxHeartbeats 4000000 in
theorem ev_X3_measureShift {l : Launch} {b : Nat} {cy : Nat → ClassId} {D : va_G} {d : Nat} {i : Nat}  {σ : Sg} (hi : Sq i)  : Es l b cy D (d + 1) yX3_measureShift cX3_measureShift (Option.some Jvm.ClassFile.FieldType.int) 5 [.ref (b + i)] σ (some (.int (rX3_measureShift i σ))) σ := by
  refine Ev.of (by decide) (Nat.le_of_ble_eq_true rfl) rfl ?_
  refine g_aload_n (pc' := 1) dX3_measureShift_0 rfl 0 rfl rfl ?_
  refine g_getL (pc' := 4) dX3_measureShift_1 rfl (PLk.lf fX3_65) hi rfl ?_
  refine g_callsr (pc' := 7) dX3_measureShift_4 rfl mX3_57 (ev_J9_abs_067f4 (x1 := σ.2 i 1) (σ := σ)  (d := d)) (rm_ok (by omega) (by decide)) ⟨rfl, rfl⟩ ⟨Nat.zero_le _, Nat.zero_le _⟩ rfl rfl (Nat.le_of_ble_eq_true rfl) ?_
  refine g_aload_n (pc' := 8) dX3_measureShift_7 rfl 0 rfl rfl ?_
  refine g_getL (pc' := 11) dX3_measureShift_8 rfl (PLk.lf fX3_69) hi rfl ?_
  refine g_callsr (pc' := 14) dX3_measureShift_11 rfl mX3_57 (ev_J9_abs_067f4 (x1 := σ.2 i 2) (σ := σ)  (d := d)) (rm_ok (by omega) (by decide)) ⟨rfl, rfl⟩ ⟨Nat.zero_le _, Nat.zero_le _⟩ rfl rfl (Nat.le_of_ble_eq_true rfl) ?_
  refine g_callsr (pc' := 17) dX3_measureShift_14 rfl mX3_81 (ev_X3_commonPart (x1 := rJ9_abs_067f4 (σ.2 i 1) σ) (x2 := rJ9_abs_067f4 (σ.2 i 2) σ) (σ := σ)  (d := d)) (rm_ok (by omega) (by decide)) ⟨rfl, rfl⟩ ⟨Nat.zero_le _, Nat.zero_le _⟩ rfl rfl (Nat.le_of_ble_eq_true rfl) ?_
  refine g_lstore_n (pc' := 18) (j := 1) (lv' := [(1, .long (gcdF 64 (rJ9_abs_067f4 (σ.2 i 1) σ) (rJ9_abs_067f4 (σ.2 i 2) σ))), (0, .ref (b + i))]) dX3_measureShift_17 rfl rfl (by decide) rfl ?_
  refine g_aload_n (pc' := 19) dX3_measureShift_18 rfl 1 rfl rfl ?_
  refine g_getL (pc' := 22) dX3_measureShift_19 rfl (PLk.lf fX3_65) hi rfl ?_
  refine g_lconst (pc' := 23) (v := 0) dX3_measureShift_22 rfl (by decide) ?_
  refine g_lif_gt (pc' := 27) (tgt := 36) dX3_measureShift_23 dX3_measureShift_24 rfl (by decide) (fun (c1 : (0 : Int64) < (σ.2 i 1)) => ?_) (fun (c1 : ¬ (0 : Int64) < (σ.2 i 1)) => ?_)
  · refine g_iconst (pc' := 37) (v := 1) dX3_measureShift_36 rfl (by decide) ?_
    refine g_goto (tgt := 41) dX3_measureShift_37 (by decide) ?_
    refine g_istore_n (pc' := 42) (j := 3) (lv' := [(3, .int (1)), (1, .long (gcdF 64 (rJ9_abs_067f4 (σ.2 i 1) σ) (rJ9_abs_067f4 (σ.2 i 2) σ))), (0, .ref (b + i))]) dX3_measureShift_41 rfl rfl (by decide) rfl ?_
    refine g_aload_n (pc' := 43) dX3_measureShift_42 rfl 2 rfl rfl ?_
    refine g_callr (pc' := 46) dX3_measureShift_43 rfl mX3_53 (ev_X6_trace (k := i) (σ := σ) hi (d := d)) hi rfl (rm_ok (by omega) (by decide)) ⟨rfl, rfl⟩ ⟨Nat.zero_le _, Nat.zero_le _⟩ rfl rfl (Nat.le_of_ble_eq_true rfl) ?_
    refine g_lconst (pc' := 47) (v := 0) dX3_measureShift_46 rfl (by decide) ?_
    refine g_lif_ge (pc' := 51) (tgt := 55) dX3_measureShift_47 dX3_measureShift_48 rfl (by decide) (fun (c2 : ¬ (rX6_trace i σ : Int64) < 0) => ?_) (fun (c2 : (rX6_trace i σ : Int64) < 0) => ?_)
    · refine g_iconst (pc' := 56) (v := 0) dX3_measureShift_55 rfl (by decide) ?_
      refine g_istore (pc' := 58) (j := 4) (lv' := [(4, .int (0)), (3, .int (1)), (1, .long (gcdF 64 (rJ9_abs_067f4 (σ.2 i 1) σ) (rJ9_abs_067f4 (σ.2 i 2) σ))), (0, .ref (b + i))]) dX3_measureShift_56 rfl (by decide) rfl ?_
      refine g_iload_n (pc' := 59) dX3_measureShift_58 rfl 1 rfl rfl ?_
      refine g_iload (pc' := 61) dX3_measureShift_59 rfl 0 rfl ?_
      refine g_icmp_ne (pc' := 64) (tgt := 69) dX3_measureShift_61 rfl (by decide) (fun _ => ?_) (fun z => absurd z (by decide))
      refine g_lload_n (pc' := 70) dX3_measureShift_69 rfl 2 rfl rfl ?_
      refine g_l2i (pc' := 71) dX3_measureShift_70 rfl ?_
      exact g_iret dX3_measureShift_71 rfl ⟨rfl, rfl⟩ (by simp only [rX3_measureShift, if_pos c1, if_neg c2, bI_t, bI_f])
    · refine g_iconst (pc' := 52) (v := 1) dX3_measureShift_51 rfl (by decide) ?_
      refine g_goto (tgt := 56) dX3_measureShift_52 (by decide) ?_
      refine g_istore (pc' := 58) (j := 4) (lv' := [(4, .int (1)), (3, .int (1)), (1, .long (gcdF 64 (rJ9_abs_067f4 (σ.2 i 1) σ) (rJ9_abs_067f4 (σ.2 i 2) σ))), (0, .ref (b + i))]) dX3_measureShift_56 rfl (by decide) rfl ?_
      refine g_iload_n (pc' := 59) dX3_measureShift_58 rfl 1 rfl rfl ?_
      refine g_iload (pc' := 61) dX3_measureShift_59 rfl 0 rfl ?_
      refine g_icmp_ne (pc' := 64) (tgt := 69) dX3_measureShift_61 rfl (by decide) (fun z => absurd z (by decide)) (fun _ => ?_)
      refine g_lload_n (pc' := 65) dX3_measureShift_64 rfl 2 rfl rfl ?_
      refine g_lneg (pc' := 66) dX3_measureShift_65 rfl ?_
      refine g_goto (tgt := 70) dX3_measureShift_66 (by decide) ?_
      refine g_l2i (pc' := 71) dX3_measureShift_70 rfl ?_
      exact g_iret dX3_measureShift_71 rfl ⟨rfl, rfl⟩ (by simp only [rX3_measureShift, if_pos c1, if_pos c2, bI_t, bI_f])
  · refine g_aload_n (pc' := 28) dX3_measureShift_27 rfl 1 rfl rfl ?_
    refine g_getL (pc' := 31) dX3_measureShift_28 rfl (PLk.lf fX3_69) hi rfl ?_
    refine g_lconst (pc' := 32) (v := 0) dX3_measureShift_31 rfl (by decide) ?_
    refine g_lif_ge (pc' := 36) (tgt := 40) dX3_measureShift_32 dX3_measureShift_33 rfl (by decide) (fun (c5 : ¬ (σ.2 i 2 : Int64) < 0) => ?_) (fun (c5 : (σ.2 i 2 : Int64) < 0) => ?_)
    · refine g_iconst (pc' := 41) (v := 0) dX3_measureShift_40 rfl (by decide) ?_
      refine g_istore_n (pc' := 42) (j := 3) (lv' := [(3, .int (0)), (1, .long (gcdF 64 (rJ9_abs_067f4 (σ.2 i 1) σ) (rJ9_abs_067f4 (σ.2 i 2) σ))), (0, .ref (b + i))]) dX3_measureShift_41 rfl rfl (by decide) rfl ?_
      refine g_aload_n (pc' := 43) dX3_measureShift_42 rfl 2 rfl rfl ?_
      refine g_callr (pc' := 46) dX3_measureShift_43 rfl mX3_53 (ev_X6_trace (k := i) (σ := σ) hi (d := d)) hi rfl (rm_ok (by omega) (by decide)) ⟨rfl, rfl⟩ ⟨Nat.zero_le _, Nat.zero_le _⟩ rfl rfl (Nat.le_of_ble_eq_true rfl) ?_
      refine g_lconst (pc' := 47) (v := 0) dX3_measureShift_46 rfl (by decide) ?_
      refine g_lif_ge (pc' := 51) (tgt := 55) dX3_measureShift_47 dX3_measureShift_48 rfl (by decide) (fun (c6 : ¬ (rX6_trace i σ : Int64) < 0) => ?_) (fun (c6 : (rX6_trace i σ : Int64) < 0) => ?_)
      · refine g_iconst (pc' := 56) (v := 0) dX3_measureShift_55 rfl (by decide) ?_
        refine g_istore (pc' := 58) (j := 4) (lv' := [(4, .int (0)), (3, .int (0)), (1, .long (gcdF 64 (rJ9_abs_067f4 (σ.2 i 1) σ) (rJ9_abs_067f4 (σ.2 i 2) σ))), (0, .ref (b + i))]) dX3_measureShift_56 rfl (by decide) rfl ?_
        refine g_iload_n (pc' := 59) dX3_measureShift_58 rfl 1 rfl rfl ?_
        refine g_iload (pc' := 61) dX3_measureShift_59 rfl 0 rfl ?_
        refine g_icmp_ne (pc' := 64) (tgt := 69) dX3_measureShift_61 rfl (by decide) (fun z => absurd z (by decide)) (fun _ => ?_)
        refine g_lload_n (pc' := 65) dX3_measureShift_64 rfl 2 rfl rfl ?_
        refine g_lneg (pc' := 66) dX3_measureShift_65 rfl ?_
        refine g_goto (tgt := 70) dX3_measureShift_66 (by decide) ?_
        refine g_l2i (pc' := 71) dX3_measureShift_70 rfl ?_
        exact g_iret dX3_measureShift_71 rfl ⟨rfl, rfl⟩ (by simp only [rX3_measureShift, if_neg c1, if_neg c5, if_neg c6, bI_t, bI_f])
      · refine g_iconst (pc' := 52) (v := 1) dX3_measureShift_51 rfl (by decide) ?_
        refine g_goto (tgt := 56) dX3_measureShift_52 (by decide) ?_
        refine g_istore (pc' := 58) (j := 4) (lv' := [(4, .int (1)), (3, .int (0)), (1, .long (gcdF 64 (rJ9_abs_067f4 (σ.2 i 1) σ) (rJ9_abs_067f4 (σ.2 i 2) σ))), (0, .ref (b + i))]) dX3_measureShift_56 rfl (by decide) rfl ?_
        refine g_iload_n (pc' := 59) dX3_measureShift_58 rfl 1 rfl rfl ?_
        refine g_iload (pc' := 61) dX3_measureShift_59 rfl 0 rfl ?_
        refine g_icmp_ne (pc' := 64) (tgt := 69) dX3_measureShift_61 rfl (by decide) (fun _ => ?_) (fun z => absurd z (by decide))
        refine g_lload_n (pc' := 70) dX3_measureShift_69 rfl 2 rfl rfl ?_
        refine g_l2i (pc' := 71) dX3_measureShift_70 rfl ?_
        exact g_iret dX3_measureShift_71 rfl ⟨rfl, rfl⟩ (by simp only [rX3_measureShift, if_neg c1, if_neg c5, if_pos c6, bI_t, bI_f])
    · refine g_iconst (pc' := 37) (v := 1) dX3_measureShift_36 rfl (by decide) ?_
      refine g_goto (tgt := 41) dX3_measureShift_37 (by decide) ?_
      refine g_istore_n (pc' := 42) (j := 3) (lv' := [(3, .int (1)), (1, .long (gcdF 64 (rJ9_abs_067f4 (σ.2 i 1) σ) (rJ9_abs_067f4 (σ.2 i 2) σ))), (0, .ref (b + i))]) dX3_measureShift_41 rfl rfl (by decide) rfl ?_
      refine g_aload_n (pc' := 43) dX3_measureShift_42 rfl 2 rfl rfl ?_
      refine g_callr (pc' := 46) dX3_measureShift_43 rfl mX3_53 (ev_X6_trace (k := i) (σ := σ) hi (d := d)) hi rfl (rm_ok (by omega) (by decide)) ⟨rfl, rfl⟩ ⟨Nat.zero_le _, Nat.zero_le _⟩ rfl rfl (Nat.le_of_ble_eq_true rfl) ?_
      refine g_lconst (pc' := 47) (v := 0) dX3_measureShift_46 rfl (by decide) ?_
      refine g_lif_ge (pc' := 51) (tgt := 55) dX3_measureShift_47 dX3_measureShift_48 rfl (by decide) (fun (c9 : ¬ (rX6_trace i σ : Int64) < 0) => ?_) (fun (c9 : (rX6_trace i σ : Int64) < 0) => ?_)
      · refine g_iconst (pc' := 56) (v := 0) dX3_measureShift_55 rfl (by decide) ?_
        refine g_istore (pc' := 58) (j := 4) (lv' := [(4, .int (0)), (3, .int (1)), (1, .long (gcdF 64 (rJ9_abs_067f4 (σ.2 i 1) σ) (rJ9_abs_067f4 (σ.2 i 2) σ))), (0, .ref (b + i))]) dX3_measureShift_56 rfl (by decide) rfl ?_
        refine g_iload_n (pc' := 59) dX3_measureShift_58 rfl 1 rfl rfl ?_
        refine g_iload (pc' := 61) dX3_measureShift_59 rfl 0 rfl ?_
        refine g_icmp_ne (pc' := 64) (tgt := 69) dX3_measureShift_61 rfl (by decide) (fun _ => ?_) (fun z => absurd z (by decide))
        refine g_lload_n (pc' := 70) dX3_measureShift_69 rfl 2 rfl rfl ?_
        refine g_l2i (pc' := 71) dX3_measureShift_70 rfl ?_
        exact g_iret dX3_measureShift_71 rfl ⟨rfl, rfl⟩ (by simp only [rX3_measureShift, if_neg c1, if_pos c5, if_neg c9, bI_t, bI_f])
      · refine g_iconst (pc' := 52) (v := 1) dX3_measureShift_51 rfl (by decide) ?_
        refine g_goto (tgt := 56) dX3_measureShift_52 (by decide) ?_
        refine g_istore (pc' := 58) (j := 4) (lv' := [(4, .int (1)), (3, .int (1)), (1, .long (gcdF 64 (rJ9_abs_067f4 (σ.2 i 1) σ) (rJ9_abs_067f4 (σ.2 i 2) σ))), (0, .ref (b + i))]) dX3_measureShift_56 rfl (by decide) rfl ?_
        refine g_iload_n (pc' := 59) dX3_measureShift_58 rfl 1 rfl rfl ?_
        refine g_iload (pc' := 61) dX3_measureShift_59 rfl 0 rfl ?_
        refine g_icmp_ne (pc' := 64) (tgt := 69) dX3_measureShift_61 rfl (by decide) (fun z => absurd z (by decide)) (fun _ => ?_)
        refine g_lload_n (pc' := 65) dX3_measureShift_64 rfl 2 rfl rfl ?_
        refine g_lneg (pc' := 66) dX3_measureShift_65 rfl ?_
        refine g_goto (tgt := 70) dX3_measureShift_66 (by decide) ?_
        refine g_l2i (pc' := 71) dX3_measureShift_70 rfl ?_
        exact g_iret dX3_measureShift_71 rfl ⟨rfl, rfl⟩ (by simp only [rX3_measureShift, if_neg c1, if_pos c5, if_pos c9, bI_t, bI_f])
def rX3_markOf (k : Nat) (s : Nat) (h : Nat) (r : Nat) (e : Nat) (w : Nat) (p : Nat) (i : Nat)  (σ : Sg) : Int32 := if (σ.1 k 2 : Int32) = 1 then rJ13_signum_95d88 (σ.2 i 2) σ else if (σ.1 k 2 : Int32) = 2 then rX3_measureShift i σ else 0
set_option maxRecDepth 100000 in
set_option maxHeartbeats 4000000 in
theorem ev_X3_markOf {l : Launch} {b : Nat} {cy : Nat → ClassId} {D : va_G} {d : Nat} {k : Nat} {s : Nat} {h : Nat} {r : Nat} {e : Nat} {w : Nat} {p : Nat} {i : Nat}  {σ : Sg} (hk : Ki k s h r e w p) (hi : Sq i)  : Es l b cy D (d + 2) yX3_markOf cX3_markOf (Option.some Jvm.ClassFile.FieldType.int) 2 [.ref (b + k), .ref (b + i)] σ (some (.int (rX3_markOf k s h r e w p i σ))) σ := by
  refine Ev.of (by decide) (Nat.le_of_ble_eq_true rfl) rfl ?_
  refine g_aload_n (pc' := 1) dX3_markOf_0 rfl 0 rfl rfl ?_
  refine g_getI (pc' := 4) dX3_markOf_1 rfl (PLk.lf fX3_25) hk.1 rfl ?_
  refine g_iconst (pc' := 5) (v := 1) dX3_markOf_4 rfl (by decide) ?_
  refine g_icmp_ne (pc' := 8) (tgt := 16) dX3_markOf_5 rfl (by decide) (fun (c1 : ¬ (σ.1 k 2 : Int32) = 1) => ?_) (fun (c1 : (σ.1 k 2 : Int32) = 1) => ?_)
  · refine g_aload_n (pc' := 17) dX3_markOf_16 rfl 0 rfl rfl ?_
    refine g_getI (pc' := 20) dX3_markOf_17 rfl (PLk.lf fX3_25) hk.1 rfl ?_
    refine g_iconst (pc' := 21) (v := 2) dX3_markOf_20 rfl (by decide) ?_
    refine g_icmp_ne (pc' := 24) (tgt := 31) dX3_markOf_21 rfl (by decide) (fun (c2 : ¬ (σ.1 k 2 : Int32) = 2) => ?_) (fun (c2 : (σ.1 k 2 : Int32) = 2) => ?_)
    · refine g_iconst (pc' := 32) (v := 0) dX3_markOf_31 rfl (by decide) ?_
      exact g_iret dX3_markOf_32 rfl ⟨rfl, rfl⟩ (by simp only [rX3_markOf, if_neg c1, if_neg c2, bI_t, bI_f])
    · refine g_aload_n (pc' := 25) dX3_markOf_24 rfl 1 rfl rfl ?_
      refine g_callsr (pc' := 28) dX3_markOf_25 rfl mX3_78 (ev_X3_measureShift (i := i) (σ := σ) hi (d := d)) (rm_ok (by omega) (by decide)) ⟨rfl, rfl⟩ ⟨Nat.zero_le _, Nat.zero_le _⟩ rfl rfl (Nat.le_of_ble_eq_true rfl) ?_
      refine g_goto (tgt := 32) dX3_markOf_28 (by decide) ?_
      exact g_iret dX3_markOf_32 rfl ⟨rfl, rfl⟩ (by simp only [rX3_markOf, if_neg c1, if_pos c2, bI_t, bI_f])
  · refine g_aload_n (pc' := 9) dX3_markOf_8 rfl 1 rfl rfl ?_
    refine g_getL (pc' := 12) dX3_markOf_9 rfl (PLk.lf fX3_69) hi rfl ?_
    refine g_callsr (pc' := 15) dX3_markOf_12 rfl mX3_72 (ev_J13_signum_95d88 (x1 := σ.2 i 2) (σ := σ)  (d := d + 1)) (rm_ok (by omega) (by decide)) ⟨rfl, rfl⟩ ⟨Nat.zero_le _, Nat.zero_le _⟩ rfl rfl (Nat.le_of_ble_eq_true rfl) ?_
    exact g_iret dX3_markOf_15 rfl ⟨rfl, rfl⟩ (by simp only [rX3_markOf, if_pos c1, bI_t, bI_f])
def sX3_lookAt (k : Nat) (s : Nat) (h : Nat) (r : Nat) (e : Nat) (w : Nat) (p : Nat) (i : Nat)  (σ : Sg) : Sg := if (rX6_isSameAs s i σ) = true then σ else if ((u2 (u2 ((sX6_copyFrom s i σ).1) k 2 (rX3_kindOf i (sX6_copyFrom s i σ))) k 3 (rX3_markOf k s h r e w p i (u2 ((sX6_copyFrom s i σ).1) k 2 (rX3_kindOf i (sX6_copyFrom s i σ)), (sX6_copyFrom s i σ).2))) k 2 : Int32) = 3 then sX8_read h r e w p i (u2 (u2 ((sX6_copyFrom s i σ).1) k 2 (rX3_kindOf i (sX6_copyFrom s i σ))) k 3 (rX3_markOf k s h r e w p i (u2 ((sX6_copyFrom s i σ).1) k 2 (rX3_kindOf i (sX6_copyFrom s i σ)), (sX6_copyFrom s i σ).2)), (sX6_copyFrom s i σ).2) else sX8_clear h r e w p (u2 (u2 ((sX6_copyFrom s i σ).1) k 2 (rX3_kindOf i (sX6_copyFrom s i σ))) k 3 (rX3_markOf k s h r e w p i (u2 ((sX6_copyFrom s i σ).1) k 2 (rX3_kindOf i (sX6_copyFrom s i σ)), (sX6_copyFrom s i σ).2)), (sX6_copyFrom s i σ).2)
set_option maxRecDepth 100000 in
set_option maxHeartbeats 4000000 in
theorem ev_X3_lookAt {l : Launch} {b : Nat} {cy : Nat → ClassId} {D : va_G} {d : Nat} {k : Nat} {s : Nat} {h : Nat} {r : Nat} {e : Nat} {w : Nat} {p : Nat} {i : Nat}  {σ : Sg} (hk : Ki k s h r e w p) (hi : Sq i)  : Es l b cy D (d + 4) yX3_lookAt cX3_lookAt (Option.none : Option Jvm.ClassFile.FieldType) 2 [.ref (b + k), .ref (b + i)] σ none (sX3_lookAt k s h r e w p i σ) := by
  refine Ev.of (by decide) (Nat.le_of_ble_eq_true rfl) rfl ?_
  refine g_aload_n (pc' := 1) dX3_lookAt_0 rfl 0 rfl rfl ?_
  refine g_getR (pc' := 4) (a := s) dX3_lookAt_1 rfl (PLk.lf fX3_12) hk.1 rfl ?_
  refine g_aload_n (pc' := 5) dX3_lookAt_4 rfl 1 rfl rfl ?_
  refine g_callr (pc' := 8) dX3_lookAt_5 rfl mX3_32 (ev_X6_isSameAs (k := s) (i := i) (σ := σ) hk.2.1 hi (d := d + 3)) hk.2.1 rfl (rm_ok (by omega) (by decide)) ⟨rfl, rfl⟩ ⟨Nat.zero_le _, Nat.zero_le _⟩ rfl rfl (Nat.le_of_ble_eq_true rfl) ?_
  refine g_ifb_eq (pc' := 11) (tgt := 12) dX3_lookAt_8 rfl (by decide) (fun (c1 : (rX6_isSameAs s i σ) = false) => ?_) (fun (c1 : (rX6_isSameAs s i σ) = true) => ?_)
  · refine g_aload_n (pc' := 13) dX3_lookAt_12 rfl 0 rfl rfl ?_
    refine g_getR (pc' := 16) (a := s) dX3_lookAt_13 rfl (PLk.lf fX3_12) hk.1 rfl ?_
    refine g_aload_n (pc' := 17) dX3_lookAt_16 rfl 1 rfl rfl ?_
    refine g_callv (pc' := 20) dX3_lookAt_17 rfl mX3_36 (ev_X6_copyFrom (k := s) (i := i) (σ := σ) hk.2.1 hi (d := d + 3)) hk.2.1 rfl (rm_ok (by omega) (by decide)) ⟨rfl, rfl⟩ ⟨Nat.zero_le _, Nat.zero_le _⟩ rfl rfl (Nat.le_of_ble_eq_true rfl) ?_
    refine g_aload_n (pc' := 21) dX3_lookAt_20 rfl 0 rfl rfl ?_
    refine g_aload_n (pc' := 22) dX3_lookAt_21 rfl 1 rfl rfl ?_
    refine g_callsr (pc' := 25) dX3_lookAt_22 rfl mX3_40 (ev_X3_kindOf (i := i) (σ := sX6_copyFrom s i σ) hi (d := d + 2)) (rm_ok (by omega) (by decide)) ⟨rfl, rfl⟩ ⟨Nat.zero_le _, Nat.zero_le _⟩ rfl rfl (Nat.le_of_ble_eq_true rfl) ?_
    refine g_putI (pc' := 28) dX3_lookAt_25 rfl fX3_25 hk.1 rfl ?_
    refine g_aload_n (pc' := 29) dX3_lookAt_28 rfl 0 rfl rfl ?_
    refine g_aload_n (pc' := 30) dX3_lookAt_29 rfl 0 rfl rfl ?_
    refine g_aload_n (pc' := 31) dX3_lookAt_30 rfl 1 rfl rfl ?_
    refine g_callr (pc' := 34) dX3_lookAt_31 rfl mX3_44 (ev_X3_markOf (k := k) (s := s) (h := h) (r := r) (e := e) (w := w) (p := p) (i := i) (σ := (u2 ((sX6_copyFrom s i σ).1) k 2 (rX3_kindOf i (sX6_copyFrom s i σ)), (sX6_copyFrom s i σ).2)) hk hi (d := d + 1)) hk.1 rfl (rm_ok (by omega) (by decide)) ⟨rfl, rfl⟩ ⟨Nat.zero_le _, Nat.zero_le _⟩ rfl rfl (Nat.le_of_ble_eq_true rfl) ?_
    refine g_putI (pc' := 37) dX3_lookAt_34 rfl fX3_29 hk.1 rfl ?_
    refine g_aload_n (pc' := 38) dX3_lookAt_37 rfl 0 rfl rfl ?_
    refine g_getI (pc' := 41) dX3_lookAt_38 rfl (PLk.lf fX3_25) hk.1 rfl ?_
    refine g_iconst (pc' := 42) (v := 3) dX3_lookAt_41 rfl (by decide) ?_
    refine g_icmp_ne (pc' := 45) (tgt := 56) dX3_lookAt_42 rfl (by decide) (fun (c2 : ¬ ((u2 (u2 ((sX6_copyFrom s i σ).1) k 2 (rX3_kindOf i (sX6_copyFrom s i σ))) k 3 (rX3_markOf k s h r e w p i (u2 ((sX6_copyFrom s i σ).1) k 2 (rX3_kindOf i (sX6_copyFrom s i σ)), (sX6_copyFrom s i σ).2))) k 2 : Int32) = 3) => ?_) (fun (c2 : ((u2 (u2 ((sX6_copyFrom s i σ).1) k 2 (rX3_kindOf i (sX6_copyFrom s i σ))) k 3 (rX3_markOf k s h r e w p i (u2 ((sX6_copyFrom s i σ).1) k 2 (rX3_kindOf i (sX6_copyFrom s i σ)), (sX6_copyFrom s i σ).2))) k 2 : Int32) = 3) => ?_)
    · refine g_aload_n (pc' := 57) dX3_lookAt_56 rfl 0 rfl rfl ?_
      refine g_getR (pc' := 60) (a := h) dX3_lookAt_57 rfl (PLk.lf fX3_21) hk.1 rfl ?_
      refine g_callv (pc' := 63) dX3_lookAt_60 rfl mX3_50 (ev_X8_clear (k := h) (r := r) (e := e) (w := w) (p := p) (σ := (u2 (u2 ((sX6_copyFrom s i σ).1) k 2 (rX3_kindOf i (sX6_copyFrom s i σ))) k 3 (rX3_markOf k s h r e w p i (u2 ((sX6_copyFrom s i σ).1) k 2 (rX3_kindOf i (sX6_copyFrom s i σ)), (sX6_copyFrom s i σ).2)), (sX6_copyFrom s i σ).2)) hk.2.2 (d := d + 3)) hk.2.2.1 rfl (rm_ok (by omega) (by decide)) ⟨rfl, rfl⟩ ⟨Nat.zero_le _, Nat.zero_le _⟩ rfl rfl (Nat.le_of_ble_eq_true rfl) ?_
      exact g_vret dX3_lookAt_63 rfl ⟨rfl, rfl⟩ (by simp only [sX3_lookAt, if_neg (bf c1), if_neg c2, bI_t, bI_f])
    · refine g_aload_n (pc' := 46) dX3_lookAt_45 rfl 0 rfl rfl ?_
      refine g_getR (pc' := 49) (a := h) dX3_lookAt_46 rfl (PLk.lf fX3_21) hk.1 rfl ?_
      refine g_aload_n (pc' := 50) dX3_lookAt_49 rfl 1 rfl rfl ?_
      refine g_callv (pc' := 53) dX3_lookAt_50 rfl mX3_47 (ev_X8_read (k := h) (r := r) (e := e) (w := w) (p := p) (i := i) (σ := (u2 (u2 ((sX6_copyFrom s i σ).1) k 2 (rX3_kindOf i (sX6_copyFrom s i σ))) k 3 (rX3_markOf k s h r e w p i (u2 ((sX6_copyFrom s i σ).1) k 2 (rX3_kindOf i (sX6_copyFrom s i σ)), (sX6_copyFrom s i σ).2)), (sX6_copyFrom s i σ).2)) hk.2.2 hi (d := d)) hk.2.2.1 rfl (rm_ok (by omega) (by decide)) ⟨rfl, rfl⟩ ⟨Nat.zero_le _, Nat.zero_le _⟩ rfl rfl (Nat.le_of_ble_eq_true rfl) ?_
      refine g_goto (tgt := 63) dX3_lookAt_53 (by decide) ?_
      exact g_vret dX3_lookAt_63 rfl ⟨rfl, rfl⟩ (by simp only [sX3_lookAt, if_neg (bf c1), if_pos c2, bI_t, bI_f])
  · exact g_vret dX3_lookAt_11 rfl ⟨rfl, rfl⟩ (by simp only [sX3_lookAt, if_pos c1, bI_t, bI_f])
def rX3_isLike (k : Nat) (s : Nat) (h : Nat) (r : Nat) (e : Nat) (w : Nat) (p : Nat) (i : Nat) (s2 : Nat) (h2 : Nat) (r2 : Nat) (e2 : Nat) (w2 : Nat) (p2 : Nat)  (σ : Sg) : Bool := if (σ.1 k 2 : Int32) = (σ.1 i 2) then if (σ.1 k 3 : Int32) = (σ.1 i 3) then if (rX3_trace k s h r e w p σ : Int32) = (rX3_trace i s2 h2 r2 e2 w2 p2 σ) then if (sameW (σ.1 r) (σ.1 r2) (cnt σ h) (cnt σ h2) (stt σ h) (stt σ h2)) = true then true else false else false else false else false
set_option maxRecDepth 100000 in
set_option maxHeartbeats 4000000 in
theorem ev_X3_isLike {l : Launch} {b : Nat} {cy : Nat → ClassId} {D : va_G} {d : Nat} {k : Nat} {s : Nat} {h : Nat} {r : Nat} {e : Nat} {w : Nat} {p : Nat} {i : Nat} {s2 : Nat} {h2 : Nat} {r2 : Nat} {e2 : Nat} {w2 : Nat} {p2 : Nat}  {σ : Sg} (hk : Ki k s h r e w p) (hi : Ki i s2 h2 r2 e2 w2 p2) (q1 : WOk σ h) (q2 : WOk σ h2) : Es l b cy D (d + 2) yX3_isLike cX3_isLike (Option.some Jvm.ClassFile.FieldType.boolean) 2 [.ref (b + k), .ref (b + i)] σ (some (.int (bI (rX3_isLike k s h r e w p i s2 h2 r2 e2 w2 p2 σ)))) σ := by
  refine Ev.of (by decide) (Nat.le_of_ble_eq_true rfl) rfl ?_
  refine g_aload_n (pc' := 1) dX3_isLike_0 rfl 0 rfl rfl ?_
  refine g_getI (pc' := 4) dX3_isLike_1 rfl (PLk.lf fX3_25) hk.1 rfl ?_
  refine g_aload_n (pc' := 5) dX3_isLike_4 rfl 1 rfl rfl ?_
  refine g_getI (pc' := 8) dX3_isLike_5 rfl (PLk.lf fX3_25) hi.1 rfl ?_
  refine g_icmp_ne (pc' := 11) (tgt := 51) dX3_isLike_8 rfl (by decide) (fun (c1 : ¬ (σ.1 k 2 : Int32) = (σ.1 i 2)) => ?_) (fun (c1 : (σ.1 k 2 : Int32) = (σ.1 i 2)) => ?_)
  · refine g_iconst (pc' := 52) (v := 0) dX3_isLike_51 rfl (by decide) ?_
    exact g_zret dX3_isLike_52 rfl (Or.inl rfl) ⟨rfl, rfl⟩ (by simp only [rX3_isLike, if_neg c1, bI_t, bI_f])
  · refine g_aload_n (pc' := 12) dX3_isLike_11 rfl 0 rfl rfl ?_
    refine g_getI (pc' := 15) dX3_isLike_12 rfl (PLk.lf fX3_29) hk.1 rfl ?_
    refine g_aload_n (pc' := 16) dX3_isLike_15 rfl 1 rfl rfl ?_
    refine g_getI (pc' := 19) dX3_isLike_16 rfl (PLk.lf fX3_29) hi.1 rfl ?_
    refine g_icmp_ne (pc' := 22) (tgt := 51) dX3_isLike_19 rfl (by decide) (fun (c2 : ¬ (σ.1 k 3 : Int32) = (σ.1 i 3)) => ?_) (fun (c2 : (σ.1 k 3 : Int32) = (σ.1 i 3)) => ?_)
    · refine g_iconst (pc' := 52) (v := 0) dX3_isLike_51 rfl (by decide) ?_
      exact g_zret dX3_isLike_52 rfl (Or.inl rfl) ⟨rfl, rfl⟩ (by simp only [rX3_isLike, if_pos c1, if_neg c2, bI_t, bI_f])
    · refine g_aload_n (pc' := 23) dX3_isLike_22 rfl 0 rfl rfl ?_
      refine g_callr (pc' := 26) dX3_isLike_23 rfl mX3_85 (ev_X3_trace (k := k) (s := s) (h := h) (r := r) (e := e) (w := w) (p := p) (σ := σ) hk (d := d)) hk.1 rfl (rm_ok (by omega) (by decide)) ⟨rfl, rfl⟩ ⟨Nat.zero_le _, Nat.zero_le _⟩ rfl rfl (Nat.le_of_ble_eq_true rfl) ?_
      refine g_aload_n (pc' := 27) dX3_isLike_26 rfl 1 rfl rfl ?_
      refine g_callr (pc' := 30) dX3_isLike_27 rfl mX3_85 (ev_X3_trace (k := i) (s := s2) (h := h2) (r := r2) (e := e2) (w := w2) (p := p2) (σ := σ) hi (d := d)) hi.1 rfl (rm_ok (by omega) (by decide)) ⟨rfl, rfl⟩ ⟨Nat.zero_le _, Nat.zero_le _⟩ rfl rfl (Nat.le_of_ble_eq_true rfl) ?_
      refine g_icmp_ne (pc' := 33) (tgt := 51) dX3_isLike_30 rfl (by decide) (fun (c3 : ¬ (rX3_trace k s h r e w p σ : Int32) = (rX3_trace i s2 h2 r2 e2 w2 p2 σ)) => ?_) (fun (c3 : (rX3_trace k s h r e w p σ : Int32) = (rX3_trace i s2 h2 r2 e2 w2 p2 σ)) => ?_)
      · refine g_iconst (pc' := 52) (v := 0) dX3_isLike_51 rfl (by decide) ?_
        exact g_zret dX3_isLike_52 rfl (Or.inl rfl) ⟨rfl, rfl⟩ (by simp only [rX3_isLike, if_pos c1, if_pos c2, if_neg c3, bI_t, bI_f])
      · refine g_aload_n (pc' := 34) dX3_isLike_33 rfl 0 rfl rfl ?_
        refine g_getR (pc' := 37) (a := h) dX3_isLike_34 rfl (PLk.lf fX3_21) hk.1 rfl ?_
        refine g_aload_n (pc' := 38) dX3_isLike_37 rfl 1 rfl rfl ?_
        refine g_getR (pc' := 41) (a := h2) dX3_isLike_38 rfl (PLk.lf fX3_21) hi.1 rfl ?_
        refine g_callr (pc' := 44) dX3_isLike_41 rfl mX3_88 (ev_X8_isSameAs (k := h) (r := r) (e := e) (w := w) (p := p) (i := h2) (r2 := r2) (e2 := e2) (w2 := w2) (p2 := p2) (n := cnt σ h) (n2 := cnt σ h2) (t := stt σ h) (u := stt σ h2) (σ := σ) hk.2.2 hi.2.2 q1.1 q1.2.1 q1.2.2.1 q1.t q2.1 q2.2.1 q2.2.2.1 q2.t (d := d)) hk.2.2.1 rfl (rm_ok (by omega) (by decide)) ⟨rfl, rfl⟩ ⟨Nat.zero_le _, Nat.zero_le _⟩ rfl rfl (Nat.le_of_ble_eq_true rfl) ?_
        refine g_ifb_eq (pc' := 47) (tgt := 51) dX3_isLike_44 rfl (by decide) (fun (c4 : (sameW (σ.1 r) (σ.1 r2) (cnt σ h) (cnt σ h2) (stt σ h) (stt σ h2)) = false) => ?_) (fun (c4 : (sameW (σ.1 r) (σ.1 r2) (cnt σ h) (cnt σ h2) (stt σ h) (stt σ h2)) = true) => ?_)
        · refine g_iconst (pc' := 52) (v := 0) dX3_isLike_51 rfl (by decide) ?_
          exact g_zret dX3_isLike_52 rfl (Or.inl rfl) ⟨rfl, rfl⟩ (by simp only [rX3_isLike, if_pos c1, if_pos c2, if_pos c3, if_neg (bf c4), bI_t, bI_f])
        · refine g_iconst (pc' := 48) (v := 1) dX3_isLike_47 rfl (by decide) ?_
          refine g_goto (tgt := 52) dX3_isLike_48 (by decide) ?_
          exact g_zret dX3_isLike_52 rfl (Or.inr rfl) ⟨rfl, rfl⟩ (by simp only [rX3_isLike, if_pos c1, if_pos c2, if_pos c3, if_pos c4, bI_t, bI_f])
