def rX4_length   (σ : Sg) : Int32 := σ.1 3 2
set_option maxRecDepth 100000 in
set_option maxHeartbeats 4000000 in
theorem ev_X4_length {l : Launch} {b : Nat} {cy : Nat → ClassId} {D : va_G} {d : Nat}   {σ : Sg}   : Es l b cy D (d + 0) yX4_length cX4_length (Option.some Jvm.ClassFile.FieldType.int) 1 [.ref (b + 3)] σ (some (.int (rX4_length σ))) σ := by
  refine Ev.of (by decide) (Nat.le_of_ble_eq_true rfl) rfl ?_
  refine g_aload_n (pc' := 1) dX4_length_0 rfl 0 rfl rfl ?_
  refine g_getI (pc' := 4) dX4_length_1 rfl (PLk.lf fX4_21) o3 rfl ?_
  exact g_iret dX4_length_4 rfl ⟨rfl, rfl⟩ rfl
def sX4_forget   (σ : Sg) : Sg := (u2 σ.1 3 2 0, σ.2)
set_option maxRecDepth 100000 in
set_option maxHeartbeats 4000000 in
theorem ev_X4_forget {l : Launch} {b : Nat} {cy : Nat → ClassId} {D : va_G} {d : Nat}   {σ : Sg}   : Es l b cy D (d + 0) yX4_forget cX4_forget (Option.none : Option Jvm.ClassFile.FieldType) 1 [.ref (b + 3)] σ none (sX4_forget σ) := by
  refine Ev.of (by decide) (Nat.le_of_ble_eq_true rfl) rfl ?_
  refine g_aload_n (pc' := 1) dX4_forget_0 rfl 0 rfl rfl ?_
  refine g_iconst (pc' := 2) (v := 0) dX4_forget_1 rfl (by decide) ?_
  refine g_putI (pc' := 5) dX4_forget_2 rfl fX4_21 o3 rfl ?_
  exact g_vret dX4_forget_5 rfl ⟨rfl, rfl⟩ rfl
theorem fm20 {q d : Nat} (hq : q < 20) (hd : d ≤ 20) : rJ9_floorMod_7cf53 (nI q - nI d) 20 ((fun _ _ => 0, fun _ _ => 0) : Sg) = nI ((q + 20 - d) % 20) := by
  have h : ∀ a, a < 20 → ∀ c, c < 21 → rJ9_floorMod_7cf53 (nI a - nI c) 20 ((fun _ _ => 0, fun _ _ => 0) : Sg) = nI ((a + 20 - c) % 20) := by decide +kernel
  exact h q hq d (by omega)
def sX4_remember (i : Nat) (c2 : Nat) (q : Nat) (n : Nat)  (σ : Sg) : Sg := (u2 (u2 ((cfS (5 + 2 * q) (5 + 2 * q + 1) i c2 n σ).1) 3 1 (((((cfS (5 + 2 * q) (5 + 2 * q + 1) i c2 n σ).1) 3 1) + 1) - ((((cfS (5 + 2 * q) (5 + 2 * q + 1) i c2 n σ).1) 3 1) + 1) / 20 * 20)) 3 2 (rJ9_min_7cf53 (((u2 ((cfS (5 + 2 * q) (5 + 2 * q + 1) i c2 n σ).1) 3 1 (((((cfS (5 + 2 * q) (5 + 2 * q + 1) i c2 n σ).1) 3 1) + 1) - ((((cfS (5 + 2 * q) (5 + 2 * q + 1) i c2 n σ).1) 3 1) + 1) / 20 * 20)) 3 2) + 1) 20 (u2 ((cfS (5 + 2 * q) (5 + 2 * q + 1) i c2 n σ).1) 3 1 (((((cfS (5 + 2 * q) (5 + 2 * q + 1) i c2 n σ).1) 3 1) + 1) - ((((cfS (5 + 2 * q) (5 + 2 * q + 1) i c2 n σ).1) 3 1) + 1) / 20 * 20), (cfS (5 + 2 * q) (5 + 2 * q + 1) i c2 n σ).2)), (cfS (5 + 2 * q) (5 + 2 * q + 1) i c2 n σ).2)
set_option maxRecDepth 100000 in
set_option maxHeartbeats 4000000 in
theorem ev_X4_remember {l : Launch} {b : Nat} {cy : Nat → ClassId} {D : va_G} {d : Nat} {i : Nat} {c2 : Nat} {q : Nat} {n : Nat}  {σ : Sg} (hi : Sf i c2) (hx : σ.1 3 1 = nI q) (hq : q < 20) (hz : σ.1 i 1 = nI n) (hn : n ≤ 12) : Es l b cy D (d + 2) yX4_remember cX4_remember (Option.none : Option Jvm.ClassFile.FieldType) 2 [.ref (b + 3), .ref (b + i)] σ none (sX4_remember i c2 q n σ) := by
  refine Ev.of (by decide) (Nat.le_of_ble_eq_true rfl) rfl ?_
  refine g_aload_n (pc' := 1) dX4_remember_0 rfl 0 rfl rfl ?_
  refine g_getR (pc' := 4) (a := 4) dX4_remember_1 rfl (PLk.lf fX4_11) o3 rfl ?_
  refine g_aload_n (pc' := 5) dX4_remember_4 rfl 0 rfl rfl ?_
  refine g_getI (pc' := 8) dX4_remember_5 rfl (PLk.lf fX4_17) o3 rfl ?_
  refine g_aald (pc' := 9) (j := q) (a := (5 + 2 * q)) dX4_remember_8 rfl o4 (by decide) rfl (by decide) hx hq (as _ hq) ?_
  refine g_aload_n (pc' := 10) dX4_remember_9 rfl 1 rfl rfl ?_
  refine g_callv (pc' := 13) dX4_remember_10 rfl mX4_25 (ev_X5_copyFrom (k := (5 + 2 * q)) (c := (5 + 2 * q + 1)) (i := i) (c2 := c2) (n := n) (σ := σ) (sfN _ hq) hi hz hn (d := d)) (sfN _ hq).1 rfl (rm_ok (by omega) (by decide)) ⟨rfl, rfl⟩ ⟨Nat.zero_le _, Nat.zero_le _⟩ rfl rfl (Nat.le_of_ble_eq_true rfl) ?_
  refine g_aload_n (pc' := 14) dX4_remember_13 rfl 0 rfl rfl ?_
  refine g_aload_n (pc' := 15) dX4_remember_14 rfl 0 rfl rfl ?_
  refine g_getI (pc' := 18) dX4_remember_15 rfl (PLk.lf fX4_17) o3 rfl ?_
  refine g_iconst (pc' := 19) (v := 1) dX4_remember_18 rfl (by decide) ?_
  refine g_iadd (pc' := 20) dX4_remember_19 rfl ?_
  refine g_bipush (pc' := 22) (v := 20) dX4_remember_20 rfl (by decide) ?_
  refine g_irem (pc' := 23) dX4_remember_22 rfl (by decide) ?_
  refine g_putI (pc' := 26) dX4_remember_23 rfl fX4_17 o3 rfl ?_
  refine g_aload_n (pc' := 27) dX4_remember_26 rfl 0 rfl rfl ?_
  refine g_aload_n (pc' := 28) dX4_remember_27 rfl 0 rfl rfl ?_
  refine g_getI (pc' := 31) dX4_remember_28 rfl (PLk.lf fX4_21) o3 rfl ?_
  refine g_iconst (pc' := 32) (v := 1) dX4_remember_31 rfl (by decide) ?_
  refine g_iadd (pc' := 33) dX4_remember_32 rfl ?_
  refine g_bipush (pc' := 35) (v := 20) dX4_remember_33 rfl (by decide) ?_
  refine g_callsr (pc' := 38) dX4_remember_35 rfl mX4_29 (ev_J9_min_7cf53 (x1 := ((u2 ((cfS (5 + 2 * q) (5 + 2 * q + 1) i c2 n σ).1) 3 1 (((((cfS (5 + 2 * q) (5 + 2 * q + 1) i c2 n σ).1) 3 1) + 1) - ((((cfS (5 + 2 * q) (5 + 2 * q + 1) i c2 n σ).1) 3 1) + 1) / 20 * 20)) 3 2) + 1) (x2 := 20) (σ := (u2 ((cfS (5 + 2 * q) (5 + 2 * q + 1) i c2 n σ).1) 3 1 (((((cfS (5 + 2 * q) (5 + 2 * q + 1) i c2 n σ).1) 3 1) + 1) - ((((cfS (5 + 2 * q) (5 + 2 * q + 1) i c2 n σ).1) 3 1) + 1) / 20 * 20), (cfS (5 + 2 * q) (5 + 2 * q + 1) i c2 n σ).2))  (d := d + 1)) (rm_ok (by omega) (by decide)) ⟨rfl, rfl⟩ ⟨Nat.zero_le _, Nat.zero_le _⟩ rfl rfl (Nat.le_of_ble_eq_true rfl) ?_
  refine g_putI (pc' := 41) dX4_remember_38 rfl fX4_21 o3 rfl ?_
  exact g_vret dX4_remember_41 rfl ⟨rfl, rfl⟩ rfl
