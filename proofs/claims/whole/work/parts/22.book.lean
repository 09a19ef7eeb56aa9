def rX0_length   (σ : Sg) : Int32 := σ.1 47 3
set_option maxRecDepth 100000 in
set_option maxHeartbeats 4000000 in
theorem ev_X0_length {l : Launch} {b : Nat} {cy : Nat → ClassId} {D : va_G} {d : Nat}   {σ : Sg}   : Es l b cy D (d + 0) yX0_length cX0_length (Option.some Jvm.ClassFile.FieldType.int) 1 [.ref (b + 47)] σ (some (.int (rX0_length σ))) σ := by
  refine Ev.of (by decide) (Nat.le_of_ble_eq_true rfl) rfl ?_
  refine g_aload_n (pc' := 1) dX0_length_0 rfl 0 rfl rfl ?_
  refine g_getI (pc' := 4) dX0_length_1 rfl (PLk.lf fX0_22) o47 rfl ?_
  exact g_iret dX0_length_4 rfl ⟨rfl, rfl⟩ rfl
def rX0_isFull   (σ : Sg) : Bool := if (σ.1 47 3 : Int32) < 20 then false else true
set_option maxRecDepth 100000 in
set_option maxHeartbeats 4000000 in
theorem ev_X0_isFull {l : Launch} {b : Nat} {cy : Nat → ClassId} {D : va_G} {d : Nat}   {σ : Sg}   : Es l b cy D (d + 0) yX0_isFull cX0_isFull (Option.some Jvm.ClassFile.FieldType.boolean) 1 [.ref (b + 47)] σ (some (.int (bI (rX0_isFull σ)))) σ := by
  refine Ev.of (by decide) (Nat.le_of_ble_eq_true rfl) rfl ?_
  refine g_aload_n (pc' := 1) dX0_isFull_0 rfl 0 rfl rfl ?_
  refine g_getI (pc' := 4) dX0_isFull_1 rfl (PLk.lf fX0_22) o47 rfl ?_
  refine g_bipush (pc' := 6) (v := 20) dX0_isFull_4 rfl (by decide) ?_
  refine g_icmp_lt (pc' := 9) (tgt := 13) dX0_isFull_6 rfl (by decide) (fun (c1 : (σ.1 47 3 : Int32) < 20) => ?_) (fun (c1 : ¬ (σ.1 47 3 : Int32) < 20) => ?_)
  · refine g_iconst (pc' := 14) (v := 0) dX0_isFull_13 rfl (by decide) ?_
    exact g_zret dX0_isFull_14 rfl (Or.inl rfl) ⟨rfl, rfl⟩ (by simp only [rX0_isFull, if_pos c1, bI_t, bI_f])
  · refine g_iconst (pc' := 10) (v := 1) dX0_isFull_9 rfl (by decide) ?_
    refine g_goto (tgt := 14) dX0_isFull_10 (by decide) ?_
    exact g_zret dX0_isFull_14 rfl (Or.inr rfl) ⟨rfl, rfl⟩ (by simp only [rX0_isFull, if_neg c1, bI_t, bI_f])
def sX0_clear   (σ : Sg) : Sg := (u2 σ.1 47 3 0, σ.2)
set_option maxRecDepth 100000 in
set_option maxHeartbeats 4000000 in
theorem ev_X0_clear {l : Launch} {b : Nat} {cy : Nat → ClassId} {D : va_G} {d : Nat}   {σ : Sg}   : Es l b cy D (d + 0) yX0_clear cX0_clear (Option.none : Option Jvm.ClassFile.FieldType) 1 [.ref (b + 47)] σ none (sX0_clear σ) := by
  refine Ev.of (by decide) (Nat.le_of_ble_eq_true rfl) rfl ?_
  refine g_aload_n (pc' := 1) dX0_clear_0 rfl 0 rfl rfl ?_
  refine g_iconst (pc' := 2) (v := 0) dX0_clear_1 rfl (by decide) ?_
  refine g_putI (pc' := 5) dX0_clear_2 rfl fX0_22 o47 rfl ?_
  exact g_vret dX0_clear_5 rfl ⟨rfl, rfl⟩ rfl
theorem bfull {n : Nat} {σ : Sg} (hz : σ.1 47 3 = nI n) (hn : n ≤ 20) (c : rX0_isFull σ = false) : n < 20 := by
  unfold rX0_isFull at c
  by_cases h : σ.1 47 3 < 20
  · exact nlt' (a := n) (c := 20) h hz rfl (by omega) (by omega)
  · rw [if_neg h] at c; cases c
def sX0_append (n : Nat) (x1 : Int32) (x2 : Int32) (x3 : Bool) (σ : Sg) : Sg := if (rX0_isFull σ) = true then σ else (u2 (u2 (u2 (u2 σ.1 48 n x1) 49 n x2) 50 n (bI (x3))) 47 3 (((u2 (u2 (u2 σ.1 48 n x1) 49 n x2) 50 n (bI (x3))) 47 3) + 1), σ.2)
set_option maxRecDepth 100000 in
set_option maxHeartbeats 4000000 in
theorem ev_X0_append {l : Launch} {b : Nat} {cy : Nat → ClassId} {D : va_G} {d : Nat} {n : Nat} {x1 : Int32} {x2 : Int32} {x3 : Bool} {σ : Sg}  (hz : σ.1 47 3 = nI n) (hn : n ≤ 20) : Es l b cy D (d + 1) yX0_append cX0_append (Option.none : Option Jvm.ClassFile.FieldType) 4 [.ref (b + 47), .int (x1), .int (x2), .int (bI (x3))] σ none (sX0_append n x1 x2 x3 σ) := by
  refine Ev.of (by decide) (Nat.le_of_ble_eq_true rfl) rfl ?_
  refine g_aload_n (pc' := 1) dX0_append_0 rfl 0 rfl rfl ?_
  refine g_callr (pc' := 4) dX0_append_1 rfl mX0_26 (ev_X0_isFull  (σ := σ)  (d := d)) o47 rfl (rm_ok (by omega) (by decide)) ⟨rfl, rfl⟩ ⟨Nat.zero_le _, Nat.zero_le _⟩ rfl rfl (Nat.le_of_ble_eq_true rfl) ?_
  refine g_ifb_ne (pc' := 7) (tgt := 47) dX0_append_4 rfl (by decide) (fun (c1 : (rX0_isFull σ) = true) => ?_) (fun (c1 : (rX0_isFull σ) = false) => ?_)
  · exact g_vret dX0_append_47 rfl ⟨rfl, rfl⟩ (by simp only [sX0_append, if_pos c1, bI_t, bI_f])
  · have hn20 := bfull hz hn c1
    refine g_aload_n (pc' := 8) dX0_append_7 rfl 0 rfl rfl ?_
    refine g_getR (pc' := 11) (a := 48) dX0_append_8 rfl (PLk.lf fX0_9) o47 rfl ?_
    refine g_aload_n (pc' := 12) dX0_append_11 rfl 0 rfl rfl ?_
    refine g_getI (pc' := 15) dX0_append_12 rfl (PLk.lf fX0_22) o47 rfl ?_
    refine g_iload_n (pc' := 16) dX0_append_15 rfl 1 rfl rfl ?_
    refine g_iast (pc' := 17) (j := n) dX0_append_16 rfl (by decide) o48 (by decide) hz hn20 ?_
    refine g_aload_n (pc' := 18) dX0_append_17 rfl 0 rfl rfl ?_
    refine g_getR (pc' := 21) (a := 49) dX0_append_18 rfl (PLk.lf fX0_15) o47 rfl ?_
    refine g_aload_n (pc' := 22) dX0_append_21 rfl 0 rfl rfl ?_
    refine g_getI (pc' := 25) dX0_append_22 rfl (PLk.lf fX0_22) o47 rfl ?_
    refine g_iload_n (pc' := 26) dX0_append_25 rfl 2 rfl rfl ?_
    refine g_iast (pc' := 27) (j := n) dX0_append_26 rfl (by decide) o49 (by decide) (by dsimp only; rw [u2_k (by decide)]; exact hz) hn20 ?_
    refine g_aload_n (pc' := 28) dX0_append_27 rfl 0 rfl rfl ?_
    refine g_getR (pc' := 31) (a := 50) dX0_append_28 rfl (PLk.lf fX0_18) o47 rfl ?_
    refine g_aload_n (pc' := 32) dX0_append_31 rfl 0 rfl rfl ?_
    refine g_getI (pc' := 35) dX0_append_32 rfl (PLk.lf fX0_22) o47 rfl ?_
    refine g_iload_n (pc' := 36) dX0_append_35 rfl 3 rfl rfl ?_
    refine g_zast (pc' := 37) (j := n) dX0_append_36 rfl (by decide) (bI_01 _) o50 (by decide) (by dsimp only; rw [u2_k (by decide), u2_k (by decide)]; exact hz) hn20 ?_
    refine g_aload_n (pc' := 38) dX0_append_37 rfl 0 rfl rfl ?_
    refine g_dup (pc' := 39) dX0_append_38 rfl rfl ?_
    refine g_getI (pc' := 42) dX0_append_39 rfl (PLk.lf fX0_22) o47 rfl ?_
    refine g_iconst (pc' := 43) (v := 1) dX0_append_42 rfl (by decide) ?_
    refine g_iadd (pc' := 44) dX0_append_43 rfl ?_
    refine g_putI (pc' := 47) dX0_append_44 rfl fX0_22 o47 rfl ?_
    exact g_vret dX0_append_47 rfl ⟨rfl, rfl⟩ (by simp only [sX0_append, if_neg (bf c1), bI_t, bI_f])
def rX0_one (n : Nat) (x1 : Int32) (σ : Sg) : Int32 := if (x1 : Int32) < 0 then -1 else if (σ.1 47 3 : Int32) ≤ x1 then -1 else σ.1 48 (x1.toNatClampNeg)
set_option maxRecDepth 100000 in
set_option maxHeartbeats 4000000 in
theorem ev_X0_one {l : Launch} {b : Nat} {cy : Nat → ClassId} {D : va_G} {d : Nat} {n : Nat} {x1 : Int32} {σ : Sg}  (hz : σ.1 47 3 = nI n) (hn : n ≤ 20) : Es l b cy D (d + 0) yX0_one cX0_one (Option.some Jvm.ClassFile.FieldType.int) 2 [.ref (b + 47), .int (x1)] σ (some (.int (rX0_one n x1 σ))) σ := by
  refine Ev.of (by decide) (Nat.le_of_ble_eq_true rfl) rfl ?_
  refine g_iload_n (pc' := 1) dX0_one_0 rfl 1 rfl rfl ?_
  refine g_if_lt (pc' := 4) (tgt := 21) dX0_one_1 rfl (by decide) (fun (c1 : (x1 : Int32) < 0) => ?_) (fun (c1 : ¬ (x1 : Int32) < 0) => ?_)
  · refine g_iconst (pc' := 22) (v := -1) dX0_one_21 rfl (by decide) ?_
    exact g_iret dX0_one_22 rfl ⟨rfl, rfl⟩ (by simp only [rX0_one, if_pos c1, bI_t, bI_f])
  · refine g_iload_n (pc' := 5) dX0_one_4 rfl 1 rfl rfl ?_
    refine g_aload_n (pc' := 6) dX0_one_5 rfl 0 rfl rfl ?_
    refine g_getI (pc' := 9) dX0_one_6 rfl (PLk.lf fX0_22) o47 rfl ?_
    refine g_icmp_ge (pc' := 12) (tgt := 21) dX0_one_9 rfl (by decide) (fun (c2 : (σ.1 47 3 : Int32) ≤ x1) => ?_) (fun (c2 : ¬ (σ.1 47 3 : Int32) ≤ x1) => ?_)
    · refine g_iconst (pc' := 22) (v := -1) dX0_one_21 rfl (by decide) ?_
      exact g_iret dX0_one_22 rfl ⟨rfl, rfl⟩ (by simp only [rX0_one, if_neg c1, if_pos c2, bI_t, bI_f])
    · have hx0 := nI_self c1
      have hxn : x1.toNatClampNeg < n := nnle (a := n) (c := x1.toNatClampNeg) c2 hz hx0 (by omega) (by obtain ⟨j, hj, e⟩ := nI_of c1; rw [e, nI_clamp hj]; exact hj)
      refine g_aload_n (pc' := 13) dX0_one_12 rfl 0 rfl rfl ?_
      refine g_getR (pc' := 16) (a := 48) dX0_one_13 rfl (PLk.lf fX0_9) o47 rfl ?_
      refine g_iload_n (pc' := 17) dX0_one_16 rfl 1 rfl rfl ?_
      refine g_iald (pc' := 18) (j := (x1.toNatClampNeg)) dX0_one_17 rfl o48 (by decide) hx0 (by omega) ?_
      refine g_goto (tgt := 22) dX0_one_18 (by decide) ?_
      exact g_iret dX0_one_22 rfl ⟨rfl, rfl⟩ (by simp only [rX0_one, if_neg c1, if_neg c2, bI_t, bI_f])
def rX0_other (n : Nat) (x1 : Int32) (σ : Sg) : Int32 := if (x1 : Int32) < 0 then -1 else if (σ.1 47 3 : Int32) ≤ x1 then -1 else σ.1 49 (x1.toNatClampNeg)
set_option maxRecDepth 100000 in
set_option maxHeartbeats 4000000 in
theorem ev_X0_other {l : Launch} {b : Nat} {cy : Nat → ClassId} {D : va_G} {d : Nat} {n : Nat} {x1 : Int32} {σ : Sg}  (hz : σ.1 47 3 = nI n) (hn : n ≤ 20) : Es l b cy D (d + 0) yX0_other cX0_other (Option.some Jvm.ClassFile.FieldType.int) 2 [.ref (b + 47), .int (x1)] σ (some (.int (rX0_other n x1 σ))) σ := by
  refine Ev.of (by decide) (Nat.le_of_ble_eq_true rfl) rfl ?_
  refine g_iload_n (pc' := 1) dX0_other_0 rfl 1 rfl rfl ?_
  refine g_if_lt (pc' := 4) (tgt := 21) dX0_other_1 rfl (by decide) (fun (c1 : (x1 : Int32) < 0) => ?_) (fun (c1 : ¬ (x1 : Int32) < 0) => ?_)
  · refine g_iconst (pc' := 22) (v := -1) dX0_other_21 rfl (by decide) ?_
    exact g_iret dX0_other_22 rfl ⟨rfl, rfl⟩ (by simp only [rX0_other, if_pos c1, bI_t, bI_f])
  · refine g_iload_n (pc' := 5) dX0_other_4 rfl 1 rfl rfl ?_
    refine g_aload_n (pc' := 6) dX0_other_5 rfl 0 rfl rfl ?_
    refine g_getI (pc' := 9) dX0_other_6 rfl (PLk.lf fX0_22) o47 rfl ?_
    refine g_icmp_ge (pc' := 12) (tgt := 21) dX0_other_9 rfl (by decide) (fun (c2 : (σ.1 47 3 : Int32) ≤ x1) => ?_) (fun (c2 : ¬ (σ.1 47 3 : Int32) ≤ x1) => ?_)
    · refine g_iconst (pc' := 22) (v := -1) dX0_other_21 rfl (by decide) ?_
      exact g_iret dX0_other_22 rfl ⟨rfl, rfl⟩ (by simp only [rX0_other, if_neg c1, if_pos c2, bI_t, bI_f])
    · have hx0 := nI_self c1
      have hxn : x1.toNatClampNeg < n := nnle (a := n) (c := x1.toNatClampNeg) c2 hz hx0 (by omega) (by obtain ⟨j, hj, e⟩ := nI_of c1; rw [e, nI_clamp hj]; exact hj)
      refine g_aload_n (pc' := 13) dX0_other_12 rfl 0 rfl rfl ?_
      refine g_getR (pc' := 16) (a := 49) dX0_other_13 rfl (PLk.lf fX0_15) o47 rfl ?_
      refine g_iload_n (pc' := 17) dX0_other_16 rfl 1 rfl rfl ?_
      refine g_iald (pc' := 18) (j := (x1.toNatClampNeg)) dX0_other_17 rfl o49 (by decide) hx0 (by omega) ?_
      refine g_goto (tgt := 22) dX0_other_18 (by decide) ?_
      exact g_iret dX0_other_22 rfl ⟨rfl, rfl⟩ (by simp only [rX0_other, if_neg c1, if_neg c2, bI_t, bI_f])
def rX0_saidAlike (n : Nat) (x1 : Int32) (σ : Sg) : Bool := if (x1 : Int32) < 0 then false else if (σ.1 47 3 : Int32) ≤ x1 then false else if (σ.1 50 (x1.toNatClampNeg) : Int32) = 0 then false else true
set_option maxRecDepth 100000 in
set_option maxHeartbeats 4000000 in
theorem ev_X0_saidAlike {l : Launch} {b : Nat} {cy : Nat → ClassId} {D : va_G} {d : Nat} {n : Nat} {x1 : Int32} {σ : Sg}  (hz : σ.1 47 3 = nI n) (hn : n ≤ 20) : Es l b cy D (d + 0) yX0_saidAlike cX0_saidAlike (Option.some Jvm.ClassFile.FieldType.boolean) 2 [.ref (b + 47), .int (x1)] σ (some (.int (bI (rX0_saidAlike n x1 σ)))) σ := by
  refine Ev.of (by decide) (Nat.le_of_ble_eq_true rfl) rfl ?_
  refine g_iload_n (pc' := 1) dX0_saidAlike_0 rfl 1 rfl rfl ?_
  refine g_if_lt (pc' := 4) (tgt := 25) dX0_saidAlike_1 rfl (by decide) (fun (c1 : (x1 : Int32) < 0) => ?_) (fun (c1 : ¬ (x1 : Int32) < 0) => ?_)
  · refine g_iconst (pc' := 26) (v := 0) dX0_saidAlike_25 rfl (by decide) ?_
    exact g_zret dX0_saidAlike_26 rfl (Or.inl rfl) ⟨rfl, rfl⟩ (by simp only [rX0_saidAlike, if_pos c1, bI_t, bI_f])
  · refine g_iload_n (pc' := 5) dX0_saidAlike_4 rfl 1 rfl rfl ?_
    refine g_aload_n (pc' := 6) dX0_saidAlike_5 rfl 0 rfl rfl ?_
    refine g_getI (pc' := 9) dX0_saidAlike_6 rfl (PLk.lf fX0_22) o47 rfl ?_
    refine g_icmp_ge (pc' := 12) (tgt := 25) dX0_saidAlike_9 rfl (by decide) (fun (c2 : (σ.1 47 3 : Int32) ≤ x1) => ?_) (fun (c2 : ¬ (σ.1 47 3 : Int32) ≤ x1) => ?_)
    · refine g_iconst (pc' := 26) (v := 0) dX0_saidAlike_25 rfl (by decide) ?_
      exact g_zret dX0_saidAlike_26 rfl (Or.inl rfl) ⟨rfl, rfl⟩ (by simp only [rX0_saidAlike, if_neg c1, if_pos c2, bI_t, bI_f])
    · have hx0 := nI_self c1
      have hxn : x1.toNatClampNeg < n := nnle (a := n) (c := x1.toNatClampNeg) c2 hz hx0 (by omega) (by obtain ⟨j, hj, e⟩ := nI_of c1; rw [e, nI_clamp hj]; exact hj)
      refine g_aload_n (pc' := 13) dX0_saidAlike_12 rfl 0 rfl rfl ?_
      refine g_getR (pc' := 16) (a := 50) dX0_saidAlike_13 rfl (PLk.lf fX0_18) o47 rfl ?_
      refine g_iload_n (pc' := 17) dX0_saidAlike_16 rfl 1 rfl rfl ?_
      refine g_zald (pc' := 18) (j := (x1.toNatClampNeg)) dX0_saidAlike_17 rfl o50 (by decide) hx0 (by omega) ?_
      refine g_if_eq (pc' := 21) (tgt := 25) dX0_saidAlike_18 rfl (by decide) (fun (c3 : (σ.1 50 (x1.toNatClampNeg) : Int32) = 0) => ?_) (fun (c3 : ¬ (σ.1 50 (x1.toNatClampNeg) : Int32) = 0) => ?_)
      · refine g_iconst (pc' := 26) (v := 0) dX0_saidAlike_25 rfl (by decide) ?_
        exact g_zret dX0_saidAlike_26 rfl (Or.inl rfl) ⟨rfl, rfl⟩ (by simp only [rX0_saidAlike, if_neg c1, if_neg c2, if_pos c3, bI_t, bI_f])
      · refine g_iconst (pc' := 22) (v := 1) dX0_saidAlike_21 rfl (by decide) ?_
        refine g_goto (tgt := 26) dX0_saidAlike_22 (by decide) ?_
        exact g_zret dX0_saidAlike_26 rfl (Or.inr rfl) ⟨rfl, rfl⟩ (by simp only [rX0_saidAlike, if_neg c1, if_neg c2, if_neg c3, bI_t, bI_f])
