def sX4_restore (i : Nat) (c2 : Nat) (q : Nat) (dd : Nat) (n : Nat) (x1 : Int32) (σ : Sg) : Sg := cfS i c2 (5 + 2 * ((q + 20 - dd) % 20)) (5 + 2 * ((q + 20 - dd) % 20) + 1) n (u2 (u2 σ.1 3 1 (rJ9_floorMod_7cf53 ((σ.1 3 1) - x1) 20 σ)) 3 2 (((u2 σ.1 3 1 (rJ9_floorMod_7cf53 ((σ.1 3 1) - x1) 20 σ)) 3 2) - x1), σ.2)
set_option maxRecDepth 100000 in
set_option maxHeartbeats 4000000 in
theorem ev_X4_restore {l : Launch} {b : Nat} {cy : Nat → ClassId} {D : va_G} {d : Nat} {i : Nat} {c2 : Nat} {q : Nat} {dd : Nat} {n : Nat} {x1 : Int32} {σ : Sg} (hi : Sf i c2) (q1 : x1 = nI dd) (hd : dd ≤ 20) (hx : σ.1 3 1 = nI q) (hq : q < 20) (hz : σ.1 (5 + 2 * ((q + 20 - dd) % 20)) 1 = nI n) (hn : n ≤ 12) : Es l b cy D (d + 2) yX4_restore cX4_restore (Option.none : Option Jvm.ClassFile.FieldType) 3 [.ref (b + 3), .int (x1), .ref (b + i)] σ none (sX4_restore i c2 q dd n x1 σ) := by
  refine Ev.of (by decide) (Nat.le_of_ble_eq_true rfl) rfl ?_
  refine g_aload_n (pc' := 1) dX4_restore_0 rfl 0 rfl rfl ?_
  refine g_aload_n (pc' := 2) dX4_restore_1 rfl 0 rfl rfl ?_
  refine g_getI (pc' := 5) dX4_restore_2 rfl (PLk.lf fX4_17) o3 rfl ?_
  refine g_iload_n (pc' := 6) dX4_restore_5 rfl 1 rfl rfl ?_
  refine g_isub (pc' := 7) dX4_restore_6 rfl ?_
  refine g_bipush (pc' := 9) (v := 20) dX4_restore_7 rfl (by decide) ?_
  refine g_callsr (pc' := 12) dX4_restore_9 rfl mX4_35 (ev_J9_floorMod_7cf53 (x1 := (σ.1 3 1) - x1) (x2 := 20) (σ := σ) (by decide) (d := d + 1)) (rm_ok (by omega) (by decide)) ⟨rfl, rfl⟩ ⟨Nat.zero_le _, Nat.zero_le _⟩ rfl rfl (Nat.le_of_ble_eq_true rfl) ?_
  refine g_putI (pc' := 15) dX4_restore_12 rfl fX4_17 o3 rfl ?_
  refine g_aload_n (pc' := 16) dX4_restore_15 rfl 0 rfl rfl ?_
  refine g_dup (pc' := 17) dX4_restore_16 rfl rfl ?_
  refine g_getI (pc' := 20) dX4_restore_17 rfl (PLk.lf fX4_21) o3 rfl ?_
  refine g_iload_n (pc' := 21) dX4_restore_20 rfl 1 rfl rfl ?_
  refine g_isub (pc' := 22) dX4_restore_21 rfl ?_
  refine g_putI (pc' := 25) dX4_restore_22 rfl fX4_21 o3 rfl ?_
  refine g_aload_n (pc' := 26) dX4_restore_25 rfl 2 rfl rfl ?_
  refine g_aload_n (pc' := 27) dX4_restore_26 rfl 0 rfl rfl ?_
  refine g_getR (pc' := 30) (a := 4) dX4_restore_27 rfl (PLk.lf fX4_11) o3 rfl ?_
  refine g_aload_n (pc' := 31) dX4_restore_30 rfl 0 rfl rfl ?_
  refine g_getI (pc' := 34) dX4_restore_31 rfl (PLk.lf fX4_17) o3 rfl ?_
  refine g_aald (pc' := 35) (j := ((q + 20 - dd) % 20)) (a := (5 + 2 * ((q + 20 - dd) % 20))) dX4_restore_34 rfl o4 (by decide) rfl (by decide) (by dsimp only; rw [u2_j (by decide), u2_eq, hx, q1]; exact fm20 hq hd) (Nat.mod_lt _ (by decide)) (as _ (Nat.mod_lt _ (by decide))) ?_
  refine g_callv (pc' := 38) dX4_restore_35 rfl mX4_25 (ev_X5_copyFrom (k := i) (c := c2) (i := (5 + 2 * ((q + 20 - dd) % 20))) (c2 := (5 + 2 * ((q + 20 - dd) % 20) + 1)) (n := n) (σ := (u2 (u2 σ.1 3 1 (rJ9_floorMod_7cf53 ((σ.1 3 1) - x1) 20 σ)) 3 2 (((u2 σ.1 3 1 (rJ9_floorMod_7cf53 ((σ.1 3 1) - x1) 20 σ)) 3 2) - x1), σ.2)) hi (sfN _ (Nat.mod_lt _ (by decide))) (by dsimp only; rw [u2_k (by omega), u2_k (by omega)]; exact hz) hn (d := d)) hi.1 rfl (rm_ok (by omega) (by decide)) ⟨rfl, rfl⟩ ⟨Nat.zero_le _, Nat.zero_le _⟩ rfl rfl (Nat.le_of_ble_eq_true rfl) ?_
  exact g_vret dX4_restore_38 rfl ⟨rfl, rfl⟩ rfl
