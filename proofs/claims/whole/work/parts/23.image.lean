set_option maxRecDepth 100000 in
set_option maxHeartbeats 4000000 in
theorem ev_X1_shelf {l : Launch} {b : Nat} {cy : Nat → ClassId} {D : va_G} {d : Nat} {k : Nat} {f : Nat} {c : Nat}  {σ : Sg} (hk : Im k f c)  : Es l b cy D (d + 0) yX1_shelf cX1_shelf (Option.some (Jvm.ClassFile.FieldType.object "MatrixKin$Shelf")) 1 [.ref (b + k)] σ (some (.ref (b + f))) σ := by
  refine Ev.of (by decide) (Nat.le_of_ble_eq_true rfl) rfl ?_
  refine g_aload_n (pc' := 1) dX1_shelf_0 rfl 0 rfl rfl ?_
  refine g_getR (pc' := 4) (a := f) dX1_shelf_1 rfl (PLk.lf fX1_10) hk.1 rfl ?_
  exact g_aret dX1_shelf_4 rfl ⟨rfl, rfl⟩ rfl
def rX1_seedThen (k : Nat) (f : Nat) (c : Nat)  (σ : Sg) : Int32 := σ.1 k 1
set_option maxRecDepth 100000 in
set_option maxHeartbeats 4000000 in
theorem ev_X1_seedThen {l : Launch} {b : Nat} {cy : Nat → ClassId} {D : va_G} {d : Nat} {k : Nat} {f : Nat} {c : Nat}  {σ : Sg} (hk : Im k f c)  : Es l b cy D (d + 0) yX1_seedThen cX1_seedThen (Option.some Jvm.ClassFile.FieldType.int) 1 [.ref (b + k)] σ (some (.int (rX1_seedThen k f c σ))) σ := by
  refine Ev.of (by decide) (Nat.le_of_ble_eq_true rfl) rfl ?_
  refine g_aload_n (pc' := 1) dX1_seedThen_0 rfl 0 rfl rfl ?_
  refine g_getI (pc' := 4) dX1_seedThen_1 rfl (PLk.lf fX1_16) hk.1 rfl ?_
  exact g_iret dX1_seedThen_4 rfl ⟨rfl, rfl⟩ rfl
set_option maxRecDepth 100000 in
set_option maxHeartbeats 4000000 in
theorem ev_X1_isKept {l : Launch} {b : Nat} {cy : Nat → ClassId} {D : va_G} {d : Nat} {k : Nat} {f : Nat} {c : Nat}   {σ : Sg} (hk : Im k f c) (hb : σ.1 k 2 = 0 ∨ σ.1 k 2 = 1) : Es l b cy D (d + 0) yX1_isKept cX1_isKept (Option.some Jvm.ClassFile.FieldType.boolean) 1 [.ref (b + k)] σ (some (.int (σ.1 k 2))) σ := by
  refine Ev.of (by decide) (Nat.le_of_ble_eq_true rfl) rfl ?_
  refine g_aload_n (pc' := 1) dX1_isKept_0 rfl 0 rfl rfl ?_
  refine g_getI (pc' := 4) dX1_isKept_1 rfl (PLk.lf fX1_20) hk.1 rfl ?_
  exact g_zret dX1_isKept_4 rfl hb ⟨rfl, rfl⟩ rfl
def sX1_fill (k : Nat) (f : Nat) (c : Nat) (i : Nat) (c2 : Nat) (n : Nat) (x2 : Int32) (σ : Sg) : Sg := (u2 (u2 ((cfS f c i c2 n σ).1) k 1 x2) k 2 1, (cfS f c i c2 n σ).2)
set_option maxRecDepth 100000 in
set_option maxHeartbeats 4000000 in
theorem ev_X1_fill {l : Launch} {b : Nat} {cy : Nat → ClassId} {D : va_G} {d : Nat} {k : Nat} {f : Nat} {c : Nat} {i : Nat} {c2 : Nat} {n : Nat} {x2 : Int32} {σ : Sg} (hk : Im k f c) (hi : Sf i c2) (hz : σ.1 i 1 = nI n) (hn : n ≤ 12) : Es l b cy D (d + 2) yX1_fill cX1_fill (Option.none : Option Jvm.ClassFile.FieldType) 3 [.ref (b + k), .ref (b + i), .int (x2)] σ none (sX1_fill k f c i c2 n x2 σ) := by
  refine Ev.of (by decide) (Nat.le_of_ble_eq_true rfl) rfl ?_
  refine g_aload_n (pc' := 1) dX1_fill_0 rfl 0 rfl rfl ?_
  refine g_getR (pc' := 4) (a := f) dX1_fill_1 rfl (PLk.lf fX1_10) hk.1 rfl ?_
  refine g_aload_n (pc' := 5) dX1_fill_4 rfl 1 rfl rfl ?_
  refine g_callv (pc' := 8) dX1_fill_5 rfl mX1_24 (ev_X5_copyFrom (k := f) (c := c) (i := i) (c2 := c2) (n := n) (σ := σ) hk.2 hi hz hn (d := d)) hk.2.1 rfl (rm_ok (by omega) (by decide)) ⟨rfl, rfl⟩ ⟨Nat.zero_le _, Nat.zero_le _⟩ rfl rfl (Nat.le_of_ble_eq_true rfl) ?_
  refine g_aload_n (pc' := 9) dX1_fill_8 rfl 0 rfl rfl ?_
  refine g_iload_n (pc' := 10) dX1_fill_9 rfl 2 rfl rfl ?_
  refine g_putI (pc' := 13) dX1_fill_10 rfl fX1_16 hk.1 rfl ?_
  refine g_aload_n (pc' := 14) dX1_fill_13 rfl 0 rfl rfl ?_
  refine g_iconst (pc' := 15) (v := 1) dX1_fill_14 rfl (by decide) ?_
  refine g_putZ (pc' := 18) dX1_fill_15 rfl fX1_20 (Or.inr rfl) hk.1 rfl ?_
  exact g_vret dX1_fill_18 rfl ⟨rfl, rfl⟩ rfl
